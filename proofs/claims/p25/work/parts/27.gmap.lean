set_option maxHeartbeats 400000 in
set_option maxRecDepth 100000 in
theorem cw_X3_costOn (E : En) (ad : Nat → Nat) (fl : Nat) (g : Nat → Int32) (a : Nat → Nat → Int32) (v : Nat → Int64) (tl : va_W) (R Cc T n m D : Nat) (hd : Dim g R Cc T n m D) (r : Nat) (hr : r < 8) : Ct E mX3_costOn 1 0 0 [.ref (ad 13), .int (nI r)] (cw E ad fl g a v tl) (fun o w => ∃ r : Int32, o = some (.int r) ∧ w = cw E ad fl g a v tl) := by
  refine Ct.of (by decide) (Nat.le_of_ble_eq_true rfl) (fun X C hQ hin => ?_)
  have C : Cx E X cX3_costOn 5 RX3 (some .int) 1 40 0 0 := C
  obtain ⟨⟨d0, d0a, d0b⟩, ⟨d1, d1a, d1b⟩, ⟨d2, d2a, d2b⟩, ⟨d4, d4a⟩, d5, ⟨d6, d6a⟩, dcm, dn0, dn1⟩ := id hd
  have loop : ∀ (m1 c : Nat) (y : Int32), 2 * D * m < c + m1 → c ≤ 2 * D * m → GG E X (cw E ad fl g a v tl) 0 0 4 [(0, .ref (ad 13)), (1, .int (nI r)), (2, .int y), (3, .int (nI c))] [] := by
    intro m1
    induction m1 with
    | zero => intro c y hm hi; omega
    | succ m1 ih =>
      intro c y hm hi
      refine mg_iload_n C dX3_costOn_4 rfl ?_
      refine mg_aload_n C dX3_costOn_5 rfl ?_
      refine mg_callV C (ct_X3_usedColumns E _ _ _ _ _ _) oX3_80 13 rfl rfl rfl rfl rfl dX3_costOn_6 (fun o6 w6 z6 => ?_)
      obtain ⟨rfl, rfl⟩ := z6
      refine mg_v ?_
      refine mg_tos (w := .int (nI (2 * D * m))) (by rw [uc_eq d6 d5]) ?_
      refine mg_icmp_ge C 64 dX3_costOn_9 (by decide) (fun h9 => ?_) (fun h9 => ?_)
      · refine mg_iload_n C dX3_costOn_64 rfl ?_
        exact mg_iret C hQ dX3_costOn_65 (⟨_, rfl, rfl⟩)
      · have hlt : c < (2 * D * m) := (by rcases Nat.lt_or_ge c (2 * D * m) with h | h; exact h; exact absurd (nI_le h (by omega)) h9)
        have hinw : vp_in (nI c) 24 := vp_in_nI (by omega) (by decide)
        have hin9 : vp_in (nI r * 24 + nI c) 192 := (by rw [pl_eq]; exact vp_in_nI (by omega) (by decide))
        refine mg_aload_n C dX3_costOn_12 rfl ?_
        refine mg_get C inG_X3 fX3_27 (ci := 3) rfl rfl 13 rfl rfl dX3_costOn_13 ?_
        refine mg_iload_n C dX3_costOn_16 rfl ?_
        refine mg_iload_n C dX3_costOn_17 rfl ?_
        refine mg_callVN C (ct_X1_place E _ _ _ _ _ _ _ _) oX3_83 18 rfl rfl rfl rfl rfl dX3_costOn_18 (fun o18 w18 z18 => ?_)
        obtain ⟨rfl, rfl⟩ := z18
        refine mg_v ?_
        refine mg_istore C dX3_costOn_21 rfl ?_
        refine mg_lve (lv' := [(0, _), (1, _), (2, _), (3, _), (4, _)]) rfl ?_
        refine mg_aload_n C dX3_costOn_23 rfl ?_
        refine mg_get C inG_X3 fX3_27 (ci := 3) rfl rfl 13 rfl rfl dX3_costOn_24 ?_
        refine mg_iload C dX3_costOn_27 rfl ?_
        refine mg_callVN C (ct_X1_sticks E _ _ _ _ _ _ _ hin9) oX3_126 18 rfl rfl rfl rfl rfl dX3_costOn_29 (fun o29 w29 z29 => ?_)
        obtain ⟨rfl, rfl⟩ := z29
        refine mg_v ?_
        refine mg_if_eq C 58 dX3_costOn_32 (by decide) (fun h32 => ?_) (fun h32 => ?_)
        · refine mg_iinc C dX3_costOn_58 rfl rfl ?_
          refine mg_lve (lv' := [(0, _), (1, _), (2, _), (3, _), (4, _)]) rfl ?_
          refine mg_goto C 4 dX3_costOn_61 (by decide) ?_
          refine mg_lv (lv' := [(0, _), (1, _), (2, _), (3, _)]) (lv_tk 4 rfl) ?_
          rw [show nI c + Int32.ofInt 1 = nI (c + 1) from (nI_succ c).symm]
          exact ih (c + 1) _ (by omega) (by omega)
        · refine mg_iload_n C dX3_costOn_35 rfl ?_
          refine mg_aload_n C dX3_costOn_36 rfl ?_
          refine mg_get C inG_X3 fX3_27 (ci := 3) rfl rfl 13 rfl rfl dX3_costOn_37 ?_
          refine mg_getN C inG_X1 fX3_130 (ci := 1) rfl rfl 18 rfl rfl dX3_costOn_40 ?_
          refine mg_iload C dX3_costOn_43 rfl ?_
          refine mg_iald C 16 rfl (hin9) dX3_costOn_45 ?_
          refine mg_aload_n C dX3_costOn_46 rfl ?_
          refine mg_get C inG_X3 fX3_18 (ci := 3) rfl rfl 13 rfl rfl dX3_costOn_47 ?_
          refine mg_iload_n C dX3_costOn_50 rfl ?_
          refine mg_iald C 10 rfl (hinw) dX3_costOn_51 ?_
          refine mg_isub C dX3_costOn_52 ?_
          refine mg_mabs C dX3_costOn_53 oX3_70m rfl ?_
          refine mg_iadd C dX3_costOn_56 ?_
          refine mg_istore_n C dX3_costOn_57 rfl ?_
          refine mg_lve (lv' := [(0, _), (1, _), (2, _), (3, _), (4, _)]) rfl ?_
          refine mg_iinc C dX3_costOn_58 rfl rfl ?_
          refine mg_lve (lv' := [(0, _), (1, _), (2, _), (3, _), (4, _)]) rfl ?_
          refine mg_goto C 4 dX3_costOn_61 (by decide) ?_
          refine mg_lv (lv' := [(0, _), (1, _), (2, _), (3, _)]) (lv_tk 4 rfl) ?_
          rw [show nI c + Int32.ofInt 1 = nI (c + 1) from (nI_succ c).symm]
          exact ih (c + 1) _ (by omega) (by omega)
  refine mg_iconst (v := 0) C dX3_costOn_0 (by decide) ?_
  refine mg_istore_n C dX3_costOn_1 rfl ?_
  refine mg_lve (lv' := [(0, _), (1, _), (2, _)]) rfl ?_
  refine mg_iconst (v := 0) C dX3_costOn_2 (by decide) ?_
  refine mg_istore_n C dX3_costOn_3 rfl ?_
  refine mg_lve (lv' := [(0, _), (1, _), (2, _), (3, _)]) rfl ?_
  exact loop (2 * D * m + 1) 0 _ (by omega) (by omega)
set_option maxHeartbeats 400000 in
set_option maxRecDepth 100000 in
theorem cw_X3_fillCosts (E : En) (ad : Nat → Nat) (fl : Nat) (g : Nat → Int32) (a : Nat → Nat → Int32) (v : Nat → Int64) (tl : va_W) (R Cc T n m D : Nat) (hd : Dim g R Cc T n m D) : Ct E mX3_fillCosts 2 0 0 [.ref (ad 13)] (cw E ad fl g a v tl) (fun o w => ∃ a1 : Nat → Nat → Int32, o = none ∧ (∀ j, j ≠ 6 → j ≠ 7 → a1 j = a j) ∧ w = cw E ad fl g a1 v tl) := by
  refine Ct.of (by decide) (Nat.le_of_ble_eq_true rfl) (fun X C hQ hin => ?_)
  have C : Cx E X cX3_fillCosts 3 RX3 none 2 80 0 0 := C
  obtain ⟨⟨d0, d0a, d0b⟩, ⟨d1, d1a, d1b⟩, ⟨d2, d2a, d2b⟩, ⟨d4, d4a⟩, d5, ⟨d6, d6a⟩, dcm, dn0, dn1⟩ := id hd
  have inner : ∀ (i : Nat), i < n → (∀ (a1 : Nat → Nat → Int32), (∀ j, j ≠ 6 → j ≠ 7 → a1 j = a j) → GG E X (cw E ad fl g a1 v tl) 0 0 50 [(0, .ref (ad 13)), (1, .int (nI i)), (2, .int (nI R))] []) → ∀ (m1 r : Nat) (a1 : Nat → Nat → Int32), R < r + m1 → r ≤ R → (∀ j, j ≠ 6 → j ≠ 7 → a1 j = a j) → GG E X (cw E ad fl g a1 v tl) 0 0 17 [(0, .ref (ad 13)), (1, .int (nI i)), (2, .int (nI r))] [] := by
    intro i hiN out
    intro m1
    induction m1 with
    | zero => intro r a1 hm hi; omega
    | succ m1 ih =>
      intro r a1 hm hi ho
      refine mg_iload_n C dX3_fillCosts_17 rfl ?_
      refine mg_aload_n C dX3_fillCosts_18 rfl ?_
      refine mg_get C inG_X3 fX3_27 (ci := 3) rfl rfl 13 rfl rfl dX3_fillCosts_19 ?_
      refine mg_getN C inG_X1 fX3_109 (ci := 1) rfl rfl 18 rfl rfl dX3_fillCosts_22 ?_
      refine mg_icmp_ge C 50 dX3_fillCosts_25 (by decide) (fun h25 => ?_) (fun h25 => ?_)
      · have hge : r = R := (by rcases Nat.lt_or_ge r R with h | h; exact absurd (by rw [d0] at h25; exact h25) (nI_ge h (by omega)); omega)
        subst hge
        exact out a1 ho
      · have hlt : r < R := (by rcases Nat.lt_or_ge r R with h | h; exact h; exact absurd (by rw [d0]; exact nI_le h (by omega)) h25)
        have hinc : vp_in (nI i * 8 + nI r) 64 := (by rw [show (8 : Int32) = nI 8 from rfl, pk_mul, nI_add]; exact vp_in_nI (by omega) (by decide))
        refine mg_aload_n C dX3_fillCosts_28 rfl ?_
        refine mg_get C inG_X3 fX3_21 (ci := 3) rfl rfl 13 rfl rfl dX3_fillCosts_29 ?_
        refine mg_iload_n C dX3_fillCosts_32 rfl ?_
        refine mg_bipush (v := 8) C dX3_fillCosts_33 (by decide) ?_
        refine mg_imul C dX3_fillCosts_35 ?_
        refine mg_iload_n C dX3_fillCosts_36 rfl ?_
        refine mg_iadd C dX3_fillCosts_37 ?_
        refine mg_aload_n C dX3_fillCosts_38 rfl ?_
        refine mg_iload_n C dX3_fillCosts_39 rfl ?_
        refine mg_callV C (cw_X3_costOn E _ _ _ _ _ _ R Cc T n m D hd r (by omega)) oX3_123 13 rfl rfl rfl rfl rfl dX3_fillCosts_40 (fun o40 w40 z40 => ?_)
        obtain ⟨r1, rfl, rfl⟩ := z40
        refine mg_v ?_
        refine mg_topi (fun zv43 ezv43 => ?_)
        refine mg_iast C 9 rfl (hinc) dX3_fillCosts_43 (ws' := (cw E ad fl g (ups a1 7 _ zv43) v tl)) rfl ?_
        refine mg_iinc C dX3_fillCosts_44 rfl rfl ?_
        refine mg_lve (lv' := [(0, _), (1, _), (2, _)]) rfl ?_
        refine mg_goto C 17 dX3_fillCosts_47 (by decide) ?_
        rw [show nI r + Int32.ofInt 1 = nI (r + 1) from (nI_succ r).symm]
        exact ih (r + 1) _ (by omega) (by omega) (fun j h6 h7 => (ups_n h7).trans (ho j h6 h7))
  have loop : ∀ (m1 i : Nat) (a1 : Nat → Nat → Int32), n < i + m1 → i ≤ n → (∀ j, j ≠ 6 → j ≠ 7 → a1 j = a j) → GG E X (cw E ad fl g a1 v tl) 0 0 2 [(0, .ref (ad 13)), (1, .int (nI i))] [] := by
    intro m1
    induction m1 with
    | zero => intro i a1 hm hi; omega
    | succ m1 ih =>
      intro i a1 hm hi ho
      refine mg_iload_n C dX3_fillCosts_2 rfl ?_
      refine mg_aload_n C dX3_fillCosts_3 rfl ?_
      refine mg_get C inG_X3 fX3_31 (ci := 3) rfl rfl 13 rfl rfl dX3_fillCosts_4 ?_
      refine mg_icmp_ge C 56 dX3_fillCosts_7 (by decide) (fun h7 => ?_) (fun h7 => ?_)
      · exact mg_vret C hQ dX3_fillCosts_56 (⟨a1, rfl, ho, rfl⟩)
      · have hlt : i < n := (by rcases Nat.lt_or_ge i n with h | h; exact h; exact absurd (by rw [d4]; exact nI_le h (by omega)) h7)
        refine mg_aload_n C dX3_fillCosts_10 rfl ?_
        refine mg_iload_n C dX3_fillCosts_11 rfl ?_
        refine mg_callV C (cw_X3_spellRow E _ _ _ _ _ _ R Cc T n m D hd i hlt) oX3_76 13 rfl rfl rfl rfl rfl dX3_fillCosts_12 (fun o12 w12 z12 => ?_)
        obtain ⟨a2, rfl, ho2, rfl⟩ := z12
        refine mg_v0 ?_
        refine mg_iconst (v := 0) C dX3_fillCosts_15 (by decide) ?_
        refine mg_istore_n C dX3_fillCosts_16 rfl ?_
        refine mg_lve (lv' := [(0, _), (1, _), (2, _)]) rfl ?_
        refine inner i hlt (fun a3 ho3 => ?_) (R + 1) 0 a2 (by omega) (by omega) (fun j h6 h7 => (ho2 j h6).trans (ho j h6 h7))
        refine mg_iinc C dX3_fillCosts_50 rfl rfl ?_
        refine mg_goto C 2 dX3_fillCosts_53 (by decide) ?_
        refine mg_lv (lv' := [(0, _), (1, _)]) (lv_tk 2 rfl) ?_
        rw [show nI i + Int32.ofInt 1 = nI (i + 1) from (nI_succ i).symm]
        exact ih (i + 1) a3 (by omega) (by omega) ho3
  refine mg_iconst (v := 0) C dX3_fillCosts_0 (by decide) ?_
  refine mg_istore_n C dX3_fillCosts_1 rfl ?_
  refine mg_lve (lv' := [(0, _), (1, _)]) rfl ?_
  exact loop (n + 1) 0 a (by omega) (by omega) (fun _ _ _ => rfl)
theorem or256 {u r : Nat} (hu : u < 256) (hr : r < 8) : u ||| 1 <<< r < 256 := by
  refine Nat.or_lt_two_pow (n := 8) hu ?_
  rw [Nat.shiftLeft_eq, Nat.one_mul]
  exact Nat.pow_lt_pow_right (by omega) hr
theorem or_eq {u r : Nat} (hr : r < 8) : nI u ||| (1 : Int32) <<< (nI r &&& 31) = nI (u ||| 1 <<< r) := by
  rw [show (1 : Int32) = nI 1 from rfl, ni_shl (by omega), ni_or]
set_option maxHeartbeats 400000 in
set_option maxRecDepth 100000 in
theorem ct_X3_costWith (E : En) (ad : Nat → Nat) (fl : Nat) (g : Nat → Int32) (a : Nat → Nat → Int32) (v : Nat → Int64) (tl : va_W) (i u r : Nat) (hi : i < 8) (hu : u < 256) (hr : r < 8) : Ct E mX3_costWith 0 0 0 [.ref (ad 13), .int (nI i), .int (nI u), .int (nI r)] (cw E ad fl g a v tl) (fun o w => ∃ r : Int32, o = some (.int r) ∧ w = cw E ad fl g a v tl) := by
  refine Ct.of (by decide) (Nat.le_of_ble_eq_true rfl) (fun X C hQ hin => ?_)
  have C : Cx E X cX3_costWith 4 RX3 (some .int) 0 0 0 0 := C
  refine mg_aload_n C dX3_costWith_0 rfl ?_
  refine mg_get C inG_X3 fX3_21 (ci := 3) rfl rfl 13 rfl rfl dX3_costWith_1 ?_
  refine mg_iload_n C dX3_costWith_4 rfl ?_
  refine mg_bipush (v := 8) C dX3_costWith_5 (by decide) ?_
  refine mg_imul C dX3_costWith_7 ?_
  refine mg_iload_n C dX3_costWith_8 rfl ?_
  refine mg_iadd C dX3_costWith_9 ?_
  refine mg_iald C 9 rfl ((by rw [show (8 : Int32) = nI 8 from rfl, pk_mul, nI_add]; exact vp_in_nI (by omega) (by decide))) dX3_costWith_10 ?_
  refine mg_aload_n C dX3_costWith_11 rfl ?_
  refine mg_get C inG_X3 fX3_24 (ci := 3) rfl rfl 13 rfl rfl dX3_costWith_12 ?_
  refine mg_iload_n C dX3_costWith_15 rfl ?_
  refine mg_iconst (v := 1) C dX3_costWith_16 (by decide) ?_
  refine mg_iload_n C dX3_costWith_17 rfl ?_
  refine mg_ishl C dX3_costWith_18 ?_
  refine mg_ior C dX3_costWith_19 ?_
  refine mg_iald C 8 rfl ((by rw [or_eq hr]; exact vp_in_nI (or256 hu hr) (by decide))) dX3_costWith_20 ?_
  refine mg_iadd C dX3_costWith_21 ?_
  exact mg_iret C hQ dX3_costWith_22 (⟨_, rfl, rfl⟩)
set_option maxHeartbeats 400000 in
set_option maxRecDepth 100000 in
theorem cw_X3_leastFrom (E : En) (ad : Nat → Nat) (fl : Nat) (g : Nat → Int32) (a : Nat → Nat → Int32) (v : Nat → Int64) (tl : va_W) (R i u : Nat) (d0 : g 0 = nI R) (hR : R ≤ 8) (hi8 : i < 8) (hu : u < 256) : Ct E mX3_leastFrom 1 0 0 [.ref (ad 13), .int (nI i), .int (nI u)] (cw E ad fl g a v tl) (fun o w => ∃ r : Int32, o = some (.int r) ∧ w = cw E ad fl g a v tl) := by
  refine Ct.of (by decide) (Nat.le_of_ble_eq_true rfl) (fun X C hQ hin => ?_)
  have C : Cx E X cX3_leastFrom 5 RX3 (some .int) 1 40 0 0 := C
  have loop : ∀ (m1 r : Nat) (y : Int32), R < r + m1 → r ≤ R → GG E X (cw E ad fl g a v tl) 0 0 6 [(0, .ref (ad 13)), (1, .int (nI i)), (2, .int (nI u)), (3, .int y), (4, .int (nI r))] [] := by
    intro m1
    induction m1 with
    | zero => intro r y hm hi; omega
    | succ m1 ih =>
      intro r y hm hi
      refine mg_iload C dX3_leastFrom_6 rfl ?_
      refine mg_aload_n C dX3_leastFrom_8 rfl ?_
      refine mg_get C inG_X3 fX3_27 (ci := 3) rfl rfl 13 rfl rfl dX3_leastFrom_9 ?_
      refine mg_getN C inG_X1 fX3_109 (ci := 1) rfl rfl 18 rfl rfl dX3_leastFrom_12 ?_
      refine mg_icmp_ge C 46 dX3_leastFrom_15 (by decide) (fun h15 => ?_) (fun h15 => ?_)
      · refine mg_iload_n C dX3_leastFrom_46 rfl ?_
        exact mg_iret C hQ dX3_leastFrom_47 (⟨_, rfl, rfl⟩)
      · have hlt : r < R := (by rcases Nat.lt_or_ge r R with h | h; exact h; exact absurd (by rw [d0]; exact nI_le h (by omega)) h15)
        refine mg_iload_n C dX3_leastFrom_18 rfl ?_
        refine mg_iload C dX3_leastFrom_19 rfl ?_
        refine mg_ishr C dX3_leastFrom_21 ?_
        refine mg_iconst (v := 1) C dX3_leastFrom_22 (by decide) ?_
        refine mg_iand C dX3_leastFrom_23 ?_
        refine mg_if_ne C 40 dX3_leastFrom_24 (by decide) (fun h24 => ?_) (fun h24 => ?_)
        · refine mg_iinc C dX3_leastFrom_40 rfl rfl ?_
          refine mg_lve (lv' := [(0, _), (1, _), (2, _), (3, _), (4, _)]) rfl ?_
          refine mg_goto C 6 dX3_leastFrom_43 (by decide) ?_
          rw [show nI r + Int32.ofInt 1 = nI (r + 1) from (nI_succ r).symm]
          exact ih (r + 1) _ (by omega) (by omega)
        · refine mg_iload_n C dX3_leastFrom_27 rfl ?_
          refine mg_aload_n C dX3_leastFrom_28 rfl ?_
          refine mg_iload_n C dX3_leastFrom_29 rfl ?_
          refine mg_iload_n C dX3_leastFrom_30 rfl ?_
          refine mg_iload C dX3_leastFrom_31 rfl ?_
          refine mg_callV C (ct_X3_costWith E _ _ _ _ _ _ i u r hi8 hu (by omega)) oX3_134 13 rfl rfl rfl rfl rfl dX3_leastFrom_33 (fun o33 w33 z33 => ?_)
          obtain ⟨r1, rfl, rfl⟩ := z33
          refine mg_v ?_
          refine mg_mmin C dX3_leastFrom_36 oX3_138m rfl ?_
          refine mg_istore_n C dX3_leastFrom_39 rfl ?_
          refine mg_lve (lv' := [(0, _), (1, _), (2, _), (3, _), (4, _)]) rfl ?_
          refine mg_iinc C dX3_leastFrom_40 rfl rfl ?_
          refine mg_lve (lv' := [(0, _), (1, _), (2, _), (3, _), (4, _)]) rfl ?_
          refine mg_goto C 6 dX3_leastFrom_43 (by decide) ?_
          rw [show nI r + Int32.ofInt 1 = nI (r + 1) from (nI_succ r).symm]
          exact ih (r + 1) _ (by omega) (by omega)
  refine mg_ldc C dX3_leastFrom_0 kX3_133 ?_
  refine mg_istore_n C dX3_leastFrom_2 rfl ?_
  refine mg_lve (lv' := [(0, _), (1, _), (2, _), (3, _)]) rfl ?_
  refine mg_iconst (v := 0) C dX3_leastFrom_3 (by decide) ?_
  refine mg_istore C dX3_leastFrom_4 rfl ?_
  refine mg_lve (lv' := [(0, _), (1, _), (2, _), (3, _), (4, _)]) rfl ?_
  exact loop (R + 1) 0 _ (by omega) (by omega)
set_option maxHeartbeats 400000 in
set_option maxRecDepth 100000 in
theorem cw_X3_firstLeastRow (E : En) (ad : Nat → Nat) (fl : Nat) (g : Nat → Int32) (a : Nat → Nat → Int32) (v : Nat → Int64) (tl : va_W) (R i u : Nat) (d0 : g 0 = nI R) (hR1 : 1 ≤ R) (hR : R ≤ 8) (hi8 : i < 8) (hu : u < 256) : Ct E mX3_firstLeastRow 1 0 0 [.ref (ad 13), .int (nI i), .int (nI u)] (cw E ad fl g a v tl) (fun o w => ∃ r : Nat, r < 8 ∧ o = some (.int (nI r)) ∧ w = cw E ad fl g a v tl) := by
  refine Ct.of (by decide) (Nat.le_of_ble_eq_true rfl) (fun X C hQ hin => ?_)
  have C : Cx E X cX3_firstLeastRow 4 RX3 (some .int) 1 40 0 0 := C
  have loop : ∀ (m1 r : Nat), R < r + m1 → r ≤ R - 1 → GG E X (cw E ad fl g a v tl) 0 0 2 [(0, .ref (ad 13)), (1, .int (nI i)), (2, .int (nI u)), (3, .int (nI r))] [] := by
    intro m1
    induction m1 with
    | zero => intro r hm hi; omega
    | succ m1 ih =>
      intro r hm hi
      refine mg_iload_n C dX3_firstLeastRow_2 rfl ?_
      refine mg_aload_n C dX3_firstLeastRow_3 rfl ?_
      refine mg_get C inG_X3 fX3_27 (ci := 3) rfl rfl 13 rfl rfl dX3_firstLeastRow_4 ?_
      refine mg_getN C inG_X1 fX3_109 (ci := 1) rfl rfl 18 rfl rfl dX3_firstLeastRow_7 ?_
      refine mg_iconst (v := 1) C dX3_firstLeastRow_10 (by decide) ?_
      refine mg_isub C dX3_firstLeastRow_11 ?_
      refine mg_tos (w := .int (nI (R - 1))) (by rw [d0, show (1 : Int32) = nI 1 from rfl, pk_sub hR1]) ?_
      refine mg_icmp_ge C 46 dX3_firstLeastRow_12 (by decide) (fun h12 => ?_) (fun h12 => ?_)
      · refine mg_iload_n C dX3_firstLeastRow_46 rfl ?_
        exact mg_iret C hQ dX3_firstLeastRow_47 (⟨r, by omega, rfl, rfl⟩)
      · have hlt : r < (R - 1) := (by rcases Nat.lt_or_ge r (R - 1) with h | h; exact h; exact absurd (nI_le h (by omega)) h12)
        have hinu : vp_in (nI u) 256 := vp_in_nI hu (by decide)
        refine mg_iload_n C dX3_firstLeastRow_15 rfl ?_
        refine mg_iload_n C dX3_firstLeastRow_16 rfl ?_
        refine mg_ishr C dX3_firstLeastRow_17 ?_
        refine mg_iconst (v := 1) C dX3_firstLeastRow_18 (by decide) ?_
        refine mg_iand C dX3_firstLeastRow_19 ?_
        refine mg_iconst (v := 1) C dX3_firstLeastRow_20 (by decide) ?_
        refine mg_icmp_eq C 40 dX3_firstLeastRow_21 (by decide) (fun h21 => ?_) (fun h21 => ?_)
        · refine mg_iinc C dX3_firstLeastRow_40 rfl rfl ?_
          refine mg_lve (lv' := [(0, _), (1, _), (2, _), (3, _)]) rfl ?_
          refine mg_goto C 2 dX3_firstLeastRow_43 (by decide) ?_
          rw [show nI r + Int32.ofInt 1 = nI (r + 1) from (nI_succ r).symm]
          exact ih (r + 1) (by omega) (by omega)
        · refine mg_aload_n C dX3_firstLeastRow_24 rfl ?_
          refine mg_iload_n C dX3_firstLeastRow_25 rfl ?_
          refine mg_iload_n C dX3_firstLeastRow_26 rfl ?_
          refine mg_iload_n C dX3_firstLeastRow_27 rfl ?_
          refine mg_callV C (ct_X3_costWith E _ _ _ _ _ _ i u r hi8 hu (by omega)) oX3_134 13 rfl rfl rfl rfl rfl dX3_firstLeastRow_28 (fun o28 w28 z28 => ?_)
          obtain ⟨r1, rfl, rfl⟩ := z28
          refine mg_v ?_
          refine mg_aload_n C dX3_firstLeastRow_31 rfl ?_
          refine mg_get C inG_X3 fX3_24 (ci := 3) rfl rfl 13 rfl rfl dX3_firstLeastRow_32 ?_
          refine mg_iload_n C dX3_firstLeastRow_35 rfl ?_
          refine mg_iald C 8 rfl (hinu) dX3_firstLeastRow_36 ?_
          refine mg_icmp_eq C 46 dX3_firstLeastRow_37 (by decide) (fun h37 => ?_) (fun h37 => ?_)
          · refine mg_iload_n C dX3_firstLeastRow_46 rfl ?_
            exact mg_iret C hQ dX3_firstLeastRow_47 (⟨r, by omega, rfl, rfl⟩)
          · refine mg_iinc C dX3_firstLeastRow_40 rfl rfl ?_
            refine mg_lve (lv' := [(0, _), (1, _), (2, _), (3, _)]) rfl ?_
            refine mg_goto C 2 dX3_firstLeastRow_43 (by decide) ?_
            rw [show nI r + Int32.ofInt 1 = nI (r + 1) from (nI_succ r).symm]
            exact ih (r + 1) (by omega) (by omega)
  refine mg_iconst (v := 0) C dX3_firstLeastRow_0 (by decide) ?_
  refine mg_istore_n C dX3_firstLeastRow_1 rfl ?_
  refine mg_lve (lv' := [(0, _), (1, _), (2, _), (3, _)]) rfl ?_
  exact loop (R + 1) 0 (by omega) (by omega)
set_option maxHeartbeats 400000 in
set_option maxRecDepth 100000 in
theorem cw_X3_chooseFirstLeast (E : En) (ad : Nat → Nat) (fl : Nat) (g : Nat → Int32) (a : Nat → Nat → Int32) (v : Nat → Int64) (tl : va_W) (R n : Nat) (d0 : g 0 = nI R) (hR1 : 1 ≤ R) (hR : R ≤ 8) (d4 : g 4 = nI n) (hn : n ≤ 8) (drow : ∀ i, i < 8 → ∃ r, r < 8 ∧ a 5 i = nI r) : Ct E mX3_chooseFirstLeast 2 0 0 [.ref (ad 13)] (cw E ad fl g a v tl) (fun o w => ∃ a1 : Nat → Nat → Int32, o = none ∧ (∀ j, j ≠ 5 → a1 j = a j) ∧ (∀ i, i < 8 → ∃ r, r < 8 ∧ a1 5 i = nI r) ∧ w = cw E ad fl g a1 v tl) := by
  refine Ct.of (by decide) (Nat.le_of_ble_eq_true rfl) (fun X C hQ hin => ?_)
  have C : Cx E X cX3_chooseFirstLeast 3 RX3 none 2 80 0 0 := C
  have loop : ∀ (m1 i u : Nat) (a1 : Nat → Nat → Int32), n < i + m1 → i ≤ n → u < 256 → (∀ j, j ≠ 5 → a1 j = a j) → (∀ i, i < 8 → ∃ r, r < 8 ∧ a1 5 i = nI r) → GG E X (cw E ad fl g a1 v tl) 0 0 4 [(0, .ref (ad 13)), (1, .int (nI u)), (2, .int (nI i))] [] := by
    intro m1
    induction m1 with
    | zero => intro i u a1 hm hi; omega
    | succ m1 ih =>
      intro i u a1 hm hi hu ho h5
      refine mg_iload_n C dX3_chooseFirstLeast_4 rfl ?_
      refine mg_aload_n C dX3_chooseFirstLeast_5 rfl ?_
      refine mg_get C inG_X3 fX3_31 (ci := 3) rfl rfl 13 rfl rfl dX3_chooseFirstLeast_6 ?_
      refine mg_icmp_ge C 41 dX3_chooseFirstLeast_9 (by decide) (fun h9 => ?_) (fun h9 => ?_)
      · exact mg_vret C hQ dX3_chooseFirstLeast_41 (⟨a1, rfl, ho, h5, rfl⟩)
      · have hlt : i < n := (by rcases Nat.lt_or_ge i n with h | h; exact h; exact absurd (by rw [d4]; exact nI_le h (by omega)) h9)
        have hin8 : vp_in (nI i) 8 := vp_in_nI (by omega) (by decide)
        refine mg_aload_n C dX3_chooseFirstLeast_12 rfl ?_
        refine mg_get C inG_X3 fX3_15 (ci := 3) rfl rfl 13 rfl rfl dX3_chooseFirstLeast_13 ?_
        refine mg_iload_n C dX3_chooseFirstLeast_16 rfl ?_
        refine mg_aload_n C dX3_chooseFirstLeast_17 rfl ?_
        refine mg_iload_n C dX3_chooseFirstLeast_18 rfl ?_
        refine mg_iload_n C dX3_chooseFirstLeast_19 rfl ?_
        refine mg_callV C (cw_X3_firstLeastRow E _ _ _ _ _ _ R i u d0 hR1 hR (by omega) hu) oX3_141 13 rfl rfl rfl rfl rfl dX3_chooseFirstLeast_20 (fun o20 w20 z20 => ?_)
        obtain ⟨r1, hr1, rfl, rfl⟩ := z20
        refine mg_v ?_
        refine mg_topi (fun zv23 ezv23 => ?_)
        refine mg_iast C 11 rfl (hin8) dX3_chooseFirstLeast_23 (ws' := (cw E ad fl g (ups a1 5 ((nI i) : Int32).toNatClampNeg zv23) v tl)) rfl ?_
        refine mg_iload_n C dX3_chooseFirstLeast_24 rfl ?_
        refine mg_iconst (v := 1) C dX3_chooseFirstLeast_25 (by decide) ?_
        refine mg_aload_n C dX3_chooseFirstLeast_26 rfl ?_
        refine mg_get C inG_X3 fX3_15 (ci := 3) rfl rfl 13 rfl rfl dX3_chooseFirstLeast_27 ?_
        refine mg_iload_n C dX3_chooseFirstLeast_30 rfl ?_
        refine mg_iald C 11 rfl (hin8) dX3_chooseFirstLeast_31 ?_
        refine mg_tos (w := .int (nI r1)) (by show Value.int (upd (a1 5) _ zv23 _) = _; rw [pk_us, ezv23]) ?_
        refine mg_ishl C dX3_chooseFirstLeast_32 ?_
        refine mg_ior C dX3_chooseFirstLeast_33 ?_
        refine mg_tos (w := .int (nI (u ||| 1 <<< r1))) (by rw [or_eq hr1]) ?_
        refine mg_istore_n C dX3_chooseFirstLeast_34 rfl ?_
        refine mg_lve (lv' := [(0, _), (1, _), (2, _)]) rfl ?_
        refine mg_iinc C dX3_chooseFirstLeast_35 rfl rfl ?_
        refine mg_lve (lv' := [(0, _), (1, _), (2, _)]) rfl ?_
        refine mg_goto C 4 dX3_chooseFirstLeast_38 (by decide) ?_
        rw [show nI i + Int32.ofInt 1 = nI (i + 1) from (nI_succ i).symm]
        refine ih (i + 1) (u ||| 1 <<< r1) _ (by omega) (by omega) (or256 hu hr1) (fun j hj => (ups_n hj).trans (ho j hj)) (fun q hq => ?_)
        show ∃ r, r < 8 ∧ upd (a1 5) _ _ q = nI r
        rw [nI_clamp (by omega)]
        by_cases e : q = i
        · subst e; exact ⟨r1, hr1, pk_us.trans ezv23⟩
        · rw [pk_un e]; exact h5 q hq
  refine mg_iconst (v := 0) C dX3_chooseFirstLeast_0 (by decide) ?_
  refine mg_istore_n C dX3_chooseFirstLeast_1 rfl ?_
  refine mg_lve (lv' := [(0, _), (1, _)]) rfl ?_
  refine mg_iconst (v := 0) C dX3_chooseFirstLeast_2 (by decide) ?_
  refine mg_istore_n C dX3_chooseFirstLeast_3 rfl ?_
  refine mg_lve (lv' := [(0, _), (1, _), (2, _)]) rfl ?_
  exact loop (n + 1) 0 0 a (by omega) (by omega) (by omega) (fun _ _ => rfl) drow
theorem vin256 : vp_in 0 256 := by unfold vp_in; decide
set_option maxHeartbeats 400000 in
set_option maxRecDepth 100000 in
theorem cw_X3_mapAnew (E : En) (ad : Nat → Nat) (fl : Nat) (g : Nat → Int32) (a : Nat → Nat → Int32) (v : Nat → Int64) (tl : va_W) (R Cc T n m D : Nat) (hd : Dim g R Cc T n m D) (drow : ∀ i, i < 8 → ∃ r, r < 8 ∧ a 5 i = nI r) : Ct E mX3_mapAnew 3 0 0 [.ref (ad 13)] (cw E ad fl g a v tl) (fun o w => ∃ (r : Int32) (a1 : Nat → Nat → Int32), o = some (.int r) ∧ (∀ j, j ≠ 5 → j ≠ 6 → j ≠ 7 → j ≠ 8 → a1 j = a j) ∧ (∀ i, i < 8 → ∃ r, r < 8 ∧ a1 5 i = nI r) ∧ w = cw E ad fl g a1 v tl) := by
  refine Ct.of (by decide) (Nat.le_of_ble_eq_true rfl) (fun X C hQ hin => ?_)
  have C : Cx E X cX3_mapAnew 3 RX3 (some .int) 3 120 0 0 := C
  obtain ⟨⟨d0, d0a, d0b⟩, ⟨d1, d1a, d1b⟩, ⟨d2, d2a, d2b⟩, ⟨d4, d4a⟩, d5, ⟨d6, d6a⟩, dcm, dn0, dn1⟩ := id hd
  have h256 : 2 ^ R ≤ 256 := Nat.le_trans (Nat.pow_le_pow_right (by omega) d0b) (by decide)
  have loop : ∀ (m1 w : Nat) (a1 : Nat → Nat → Int32), w < m1 → w ≤ 256 → (∀ j, j ≠ 6 → j ≠ 7 → j ≠ 8 → a1 j = a j) → GG E X (cw E ad fl g a1 v tl) 0 0 16 [(0, .ref (ad 13)), (1, .int (nI w - 1))] [] := by
    intro m1
    induction m1 with
    | zero => intro w a1 hm hi; omega
    | succ m1 ih =>
      intro w a1 hm hi ho
      refine mg_iload_n C dX3_mapAnew_16 rfl ?_
      refine mg_if_lt C 55 dX3_mapAnew_17 (by decide) (fun h17 => ?_) (fun h17 => ?_)
      · refine mg_aload_n C dX3_mapAnew_55 rfl ?_
        refine mg_callV C (cw_X3_chooseFirstLeast E _ _ _ _ _ _ R n d0 d0a d0b d4 (by omega) (fun i hi => by rw [ho 5 (by decide) (by decide) (by decide)]; exact drow i hi)) oX3_120 13 rfl rfl rfl rfl rfl dX3_mapAnew_56 (fun o56 w56 z56 => ?_)
        obtain ⟨a2, rfl, ho2, h52, rfl⟩ := z56
        refine mg_v0 ?_
        refine mg_aload_n C dX3_mapAnew_59 rfl ?_
        refine mg_get C inG_X3 fX3_24 (ci := 3) rfl rfl 13 rfl rfl dX3_mapAnew_60 ?_
        refine mg_iconst (v := 0) C dX3_mapAnew_63 (by decide) ?_
        refine mg_iald C 8 rfl (vin256) dX3_mapAnew_64 ?_
        exact mg_iret C hQ dX3_mapAnew_65 (⟨_, a2, rfl, fun j h5 h6 h7 h8 => (ho2 j h5).trans (ho j h6 h7 h8), h52, rfl⟩)
      · obtain ⟨u, eu⟩ : ∃ u, w = u + 1 := ⟨w - 1, by rcases Nat.eq_zero_or_pos w with e | e; exact absurd (by rw [e]; decide) h17; omega⟩
        subst eu
        have euI : nI (u + 1) - 1 = nI u := nI_pred u
        rw [euI]
        have hinu : vp_in (nI u) 256 := vp_in_nI (by omega) (by decide)
        refine mg_iload_n C dX3_mapAnew_20 rfl ?_
        refine mg_callS C (cw_bitCount E _ _) oX3_112 rfl rfl rfl dX3_mapAnew_21 (fun o21 w21 z21 => ?_)
        obtain ⟨bc, hbc, rfl, rfl⟩ := z21
        refine mg_v ?_
        refine mg_istore_n C dX3_mapAnew_24 rfl ?_
        refine mg_lve (lv' := [(0, _), (1, _), (2, _)]) rfl ?_
        refine mg_aload_n C dX3_mapAnew_25 rfl ?_
        refine mg_get C inG_X3 fX3_24 (ci := 3) rfl rfl 13 rfl rfl dX3_mapAnew_26 ?_
        refine mg_iload_n C dX3_mapAnew_29 rfl ?_
        refine mg_iload_n C dX3_mapAnew_30 rfl ?_
        refine mg_aload_n C dX3_mapAnew_31 rfl ?_
        refine mg_get C inG_X3 fX3_31 (ci := 3) rfl rfl 13 rfl rfl dX3_mapAnew_32 ?_
        refine mg_icmp_ge C 47 dX3_mapAnew_35 (by decide) (fun h35 => ?_) (fun h35 => ?_)
        · refine mg_iconst (v := 0) C dX3_mapAnew_47 (by decide) ?_
          refine mg_iast C 8 rfl (hinu) dX3_mapAnew_48 (ws' := (cw E ad fl g (ups a1 8 ((nI u) : Int32).toNatClampNeg 0) v tl)) rfl ?_
          refine mg_iinc C dX3_mapAnew_49 rfl rfl ?_
          refine mg_lve (lv' := [(0, _), (1, _), (2, _)]) rfl ?_
          refine mg_goto C 16 dX3_mapAnew_52 (by decide) ?_
          refine mg_lv (lv' := [(0, _), (1, _)]) (lv_tk 2 rfl) ?_
          rw [sub1]
          exact ih u _ (by omega) (by omega) (fun j h6 h7 h8 => (ups_n h8).trans (ho j h6 h7 h8))
        · refine mg_aload_n C dX3_mapAnew_38 rfl ?_
          refine mg_iload_n C dX3_mapAnew_39 rfl ?_
          refine mg_iload_n C dX3_mapAnew_40 rfl ?_
          refine mg_callV C (cw_X3_leastFrom E _ _ _ _ _ _ R bc u d0 d0b (by have h5 : bc < n := (by rcases Nat.lt_or_ge bc n with h | h; exact h; exact absurd (by rw [d4]; exact nI_le h (by omega)) h35); omega) (by omega)) oX3_117 13 rfl rfl rfl rfl rfl dX3_mapAnew_41 (fun o41 w41 z41 => ?_)
          obtain ⟨r1, rfl, rfl⟩ := z41
          refine mg_v ?_
          refine mg_goto C 48 dX3_mapAnew_44 (by decide) ?_
          refine mg_topi (fun zv48 ezv48 => ?_)
          refine mg_iast C 8 rfl (hinu) dX3_mapAnew_48 (ws' := (cw E ad fl g (ups a1 8 ((nI u) : Int32).toNatClampNeg zv48) v tl)) rfl ?_
          refine mg_iinc C dX3_mapAnew_49 rfl rfl ?_
          refine mg_lve (lv' := [(0, _), (1, _), (2, _)]) rfl ?_
          refine mg_goto C 16 dX3_mapAnew_52 (by decide) ?_
          refine mg_lv (lv' := [(0, _), (1, _)]) (lv_tk 2 rfl) ?_
          rw [sub1]
          exact ih u _ (by omega) (by omega) (fun j h6 h7 h8 => (ups_n h8).trans (ho j h6 h7 h8))
  refine mg_aload_n C dX3_mapAnew_0 rfl ?_
  refine mg_callV C (cw_X3_fillCosts E _ _ _ _ _ _ R Cc T n m D hd) oX3_106 13 rfl rfl rfl rfl rfl dX3_mapAnew_1 (fun o1 w1 z1 => ?_)
  obtain ⟨a2, rfl, ho2, rfl⟩ := z1
  refine mg_v0 ?_
  refine mg_iconst (v := 1) C dX3_mapAnew_4 (by decide) ?_
  refine mg_aload_n C dX3_mapAnew_5 rfl ?_
  refine mg_get C inG_X3 fX3_27 (ci := 3) rfl rfl 13 rfl rfl dX3_mapAnew_6 ?_
  refine mg_getN C inG_X1 fX3_109 (ci := 1) rfl rfl 18 rfl rfl dX3_mapAnew_9 ?_
  refine mg_ishl C dX3_mapAnew_12 ?_
  refine mg_iconst (v := 1) C dX3_mapAnew_13 (by decide) ?_
  refine mg_isub C dX3_mapAnew_14 ?_
  refine mg_tos (w := .int (nI (2 ^ R) - 1)) (by rw [d0, show (1 : Int32) = nI 1 from rfl, ni_shl (by omega), Nat.shiftLeft_eq, Nat.one_mul]) ?_
  refine mg_istore_n C dX3_mapAnew_15 rfl ?_
  refine mg_lve (lv' := [(0, _), (1, _)]) rfl ?_
  exact loop (2 ^ R + 1) (2 ^ R) a2 (by omega) h256 (fun j h6 h7 _ => ho2 j h6 h7)
set_option maxHeartbeats 400000 in
set_option maxRecDepth 100000 in
theorem cv_map (E : En) (ad : Nat → Nat) (fl : Nat) (g : Nat → Int32) (a : Nat → Nat → Int32) (v : Nat → Int64) (tl : va_W)  (hV : CV fl g a) : Ct E mX4_map 4 0 0 [.ref (ad 19)] (cw E ad fl g a v tl) (fun o w => ∃ (r : Int32) (ad1 : Nat → Nat) (fl1 : Nat) (g1 : Nat → Int32) (a1 : Nat → Nat → Int32) (v1 : Nat → Int64), o = some (.int r) ∧ Sh g a g1 a1 ∧ CV fl1 g1 a1 ∧ ad1 19 = ad 19 ∧ w = cw E ad1 fl1 g1 a1 v1 tl) := by
  refine Ct.of (by decide) (Nat.le_of_ble_eq_true rfl) (fun X C hQ hin => ?_)
  have C : Cx E X cX4_map 1 RX4 (some .int) 4 160 0 0 := C
  obtain ⟨R, Cc, T, n, m, D, F, ⟨⟨d0, d0a, d0b⟩, ⟨d1, d1a, d1b⟩, ⟨d2, d2a, d2b⟩, ⟨d4, d4a⟩, d5, ⟨d6, d6a⟩, dcm, dn0, dn1⟩, ⟨dF, dF1, dF2⟩, drow, dout⟩ := id hV.1
  refine mg_aload_n C dX4_map_0 rfl ?_
  refine mg_get C inG_X4 fX4_21 (ci := 4) rfl rfl 19 rfl rfl dX4_map_1 ?_
  refine mg_callVN C (ct_X3_exists E _ _ _ _ _ _) oX4_116 13 rfl rfl rfl rfl rfl dX4_map_4 (fun o4 w4 z4 => ?_)
  obtain ⟨rfl, rfl⟩ := z4
  refine mg_v ?_
  refine mg_if_eq C 20 dX4_map_7 (by decide) (fun h7 => ?_) (fun h7 => ?_)
  · refine mg_bipush (v := (-3)) C dX4_map_20 (by decide) ?_
    exact mg_iret C hQ dX4_map_22 (⟨_, ad, fl, g, a, v, rfl, Sh.rf, hV, rfl, rfl⟩)
  · refine mg_aload_n C dX4_map_10 rfl ?_
    refine mg_get C inG_X4 fX4_21 (ci := 4) rfl rfl 19 rfl rfl dX4_map_11 ?_
    refine mg_callVN C (cw_X3_mapAnew E _ _ _ _ _ _ R Cc T n m D ⟨⟨d0, d0a, d0b⟩, ⟨d1, d1a, d1b⟩, ⟨d2, d2a, d2b⟩, ⟨d4, d4a⟩, d5, ⟨d6, d6a⟩, dcm, dn0, dn1⟩ drow) oX4_139 13 rfl rfl rfl rfl rfl dX4_map_14 (fun o14 w14 z14 => ?_)
    obtain ⟨r1, a2, rfl, ho2, h52, rfl⟩ := z14
    refine mg_v ?_
    refine mg_goto C 22 dX4_map_17 (by decide) ?_
    exact mg_iret C hQ dX4_map_22 (⟨_, ad, fl, g, a2, v, rfl, Sh.ar (ho2 1 (by decide) (by decide) (by decide) (by decide)) (ho2 3 (by decide) (by decide) (by decide) (by decide)) (ho2 4 (by decide) (by decide) (by decide) (by decide)) (ho2 13 (by decide) (by decide) (by decide) (by decide)), ⟨hV.1.mv (fun _ _ => rfl) h52 (fun j _ => by rw [ho2 1 (by decide) (by decide) (by decide) (by decide)]), hV.2⟩, rfl, rfl⟩)
