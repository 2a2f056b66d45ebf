set_option maxHeartbeats 400000 in
set_option maxRecDepth 100000 in
theorem cw_X3_costOn (E : En) (ad : Nat → Nat) (fl : Nat) (g : Nat → Int32) (a : Nat → Nat → Int32) (v : Nat → Int64) (tl : va_W) (R Cc T n m D : Nat) (hd : Dim g R Cc T n m D) (a0 : Nat → Nat → Int32) (i r : Nat) (hr : r < 8) (h1 : a 1 = a0 1) (hw : ∀ c, c < 2 * D * m → a 6 c = wtI (g 2 + 1) a0 D i c) : Ct E mX3_costOn 1 0 0 [.ref (ad 13), .int (nI r)] (cw E ad fl g a v tl) (fun o w => o = some (.int (coI (g 2 + 1) a0 D i r (2 * D * m))) ∧ w = cw E ad fl g a v tl) := by
  refine Ct.of (by decide) (Nat.le_of_ble_eq_true rfl) (fun X C hQ hin => ?_)
  have C : Cx E X cX3_costOn 5 RX3 (some .int) 1 40 0 0 := C
  obtain ⟨⟨d0, d0a, d0b⟩, ⟨d1, d1a, d1b⟩, ⟨d2, d2a, d2b⟩, ⟨d4, d4a⟩, d5, ⟨d6, d6a⟩, dcm, dn0, dn1⟩ := id hd
  have loop : ∀ (m1 c : Nat), 2 * D * m < c + m1 → c ≤ 2 * D * m → GG E X (cw E ad fl g a v tl) 0 0 4 [(0, .ref (ad 13)), (1, .int (nI r)), (2, .int (coI (g 2 + 1) a0 D i r c)), (3, .int (nI c))] [] := by
    intro m1
    induction m1 with
    | zero => intro c hm hi; omega
    | succ m1 ih =>
      intro c hm hi
      refine mg_iload_n C dX3_costOn_4 rfl ?_
      refine mg_aload_n C dX3_costOn_5 rfl ?_
      refine mg_callV C (ct_X3_usedColumns E _ _ _ _ _ _) oX3_80 13 rfl rfl rfl rfl rfl dX3_costOn_6 (fun o6 w6 z6 => ?_)
      obtain ⟨rfl, rfl⟩ := z6
      refine mg_v ?_
      refine mg_tos (w := .int (nI (2 * D * m))) (by rw [uc_eq d6 d5]) ?_
      refine mg_icmp_ge C 64 dX3_costOn_9 (by decide) (fun h9 => ?_) (fun h9 => ?_)
      · have hge : c = (2 * D * m) := (by rcases Nat.lt_or_ge c (2 * D * m) with h | h; exact absurd (h9) (nI_ge h (by omega)); omega)
        skip
        refine mg_iload_n C dX3_costOn_64 rfl ?_
        exact mg_iret C hQ dX3_costOn_65 (⟨by rw [hge], rfl⟩)
      · have hlt : c < (2 * D * m) := (by rcases Nat.lt_or_ge c (2 * D * m) with h | h; exact h; exact absurd (nI_le h (by omega)) h9)
        have hinw : vp_in (nI c) 24 := vp_in_nI (by omega) (by decide)
        have hin9 : vp_in (nI r * 24 + nI c) 192 := (by rw [pl_eq]; exact vp_in_nI (by omega) (by decide))
        have esk : sk a (nI r * 24 + nI c) = if a0 1 (r * 24 + c) = -1 then 0 else 1 := (by unfold sk; rw [pl_eq, nI_clamp (by omega), h1])
        refine mg_aload_n C dX3_costOn_12 rfl ?_
        refine mg_get C inG_X3 fX3_27 (ci := 3) rfl rfl 13 rfl rfl dX3_costOn_13 ?_
        refine mg_iload_n C dX3_costOn_16 rfl ?_
        refine mg_iload_n C dX3_costOn_17 rfl ?_
        refine mg_callVN C (ct_X1_place E _ _ _ _ _ _ _ _) oX3_83 18 rfl rfl rfl rfl rfl dX3_costOn_18 (fun o18 w18 z18 => ?_)
        obtain ⟨rfl, rfl⟩ := z18
        refine mg_v ?_
        refine mg_istore C dX3_costOn_21 rfl ?_
        refine mg_lve (lv' := [(0, _), (1, _), (2, _), (3, _), (4, _)]) rfl ?_
        refine mg_aload_n C dX3_costOn_23 rfl ?_
        refine mg_get C inG_X3 fX3_27 (ci := 3) rfl rfl 13 rfl rfl dX3_costOn_24 ?_
        refine mg_iload C dX3_costOn_27 rfl ?_
        refine mg_callVN C (ct_X1_sticks E _ _ _ _ _ _ _ hin9) oX3_126 18 rfl rfl rfl rfl rfl dX3_costOn_29 (fun o29 w29 z29 => ?_)
        obtain ⟨rfl, rfl⟩ := z29
        refine mg_v ?_
        refine mg_if_eq C 58 dX3_costOn_32 (by decide) (fun h32 => ?_) (fun h32 => ?_)
        · refine mg_iinc C dX3_costOn_58 rfl rfl ?_
          refine mg_lve (lv' := [(0, _), (1, _), (2, _), (3, _), (4, _)]) rfl ?_
          refine mg_goto C 4 dX3_costOn_61 (by decide) ?_
          have h1c : a0 1 (r * 24 + c) = -1 := (by rw [esk] at h32; by_cases q : a0 1 (r * 24 + c) = -1; exact q; rw [if_neg q] at h32; exact absurd h32 (by decide))
          refine mg_lv (lv' := [(0, .ref (ad 13)), (1, .int (nI r)), (2, .int (coI (g 2 + 1) a0 D i r (c + 1))), (3, .int (nI (c + 1)))]) (lv_tk 4 (by rw [coI, if_pos h1c, Int32.add_zero, nI_succ c]; rfl)) ?_
          exact ih (c + 1) (by omega) (by omega)
        · refine mg_iload_n C dX3_costOn_35 rfl ?_
          refine mg_aload_n C dX3_costOn_36 rfl ?_
          refine mg_get C inG_X3 fX3_27 (ci := 3) rfl rfl 13 rfl rfl dX3_costOn_37 ?_
          refine mg_getN C inG_X1 fX3_130 (ci := 1) rfl rfl 18 rfl rfl dX3_costOn_40 ?_
          refine mg_iload C dX3_costOn_43 rfl ?_
          refine mg_iald C 16 rfl (hin9) dX3_costOn_45 ?_
          refine mg_tos (w := .int (a0 1 (r * 24 + c))) (by rw [pl_eq, nI_clamp (by omega), h1]) ?_
          refine mg_aload_n C dX3_costOn_46 rfl ?_
          refine mg_get C inG_X3 fX3_18 (ci := 3) rfl rfl 13 rfl rfl dX3_costOn_47 ?_
          refine mg_iload_n C dX3_costOn_50 rfl ?_
          refine mg_iald C 10 rfl (hinw) dX3_costOn_51 ?_
          refine mg_tos (w := .int (wtI (g 2 + 1) a0 D i c)) (by rw [nI_clamp (by omega), hw c hlt]) ?_
          refine mg_isub C dX3_costOn_52 ?_
          refine mg_mabs C dX3_costOn_53 oX3_70m rfl ?_
          refine mg_iadd C dX3_costOn_56 ?_
          refine mg_istore_n C dX3_costOn_57 rfl ?_
          refine mg_lve (lv' := [(0, _), (1, _), (2, _), (3, _), (4, _)]) rfl ?_
          refine mg_iinc C dX3_costOn_58 rfl rfl ?_
          refine mg_lve (lv' := [(0, _), (1, _), (2, _), (3, _), (4, _)]) rfl ?_
          refine mg_goto C 4 dX3_costOn_61 (by decide) ?_
          have h1c : ¬ a0 1 (r * 24 + c) = -1 := (by rw [esk] at h32; intro q; rw [if_pos q] at h32; exact h32 rfl)
          refine mg_lv (lv' := [(0, .ref (ad 13)), (1, .int (nI r)), (2, .int (coI (g 2 + 1) a0 D i r (c + 1))), (3, .int (nI (c + 1)))]) (lv_tk 4 (by rw [coI, if_neg h1c, nI_succ c]; rfl)) ?_
          exact ih (c + 1) (by omega) (by omega)
  refine mg_iconst (v := 0) C dX3_costOn_0 (by decide) ?_
  refine mg_istore_n C dX3_costOn_1 rfl ?_
  refine mg_lve (lv' := [(0, _), (1, _), (2, _)]) rfl ?_
  refine mg_iconst (v := 0) C dX3_costOn_2 (by decide) ?_
  refine mg_istore_n C dX3_costOn_3 rfl ?_
  refine mg_lve (lv' := [(0, _), (1, _), (2, _), (3, _)]) rfl ?_
  exact loop (2 * D * m + 1) 0 (by omega) (by omega)
set_option maxHeartbeats 400000 in
set_option maxRecDepth 100000 in
theorem cw_X3_fillCosts (E : En) (ad : Nat → Nat) (fl : Nat) (g : Nat → Int32) (a : Nat → Nat → Int32) (v : Nat → Int64) (tl : va_W) (R Cc T n m D : Nat) (hd : Dim g R Cc T n m D) : Ct E mX3_fillCosts 2 0 0 [.ref (ad 13)] (cw E ad fl g a v tl) (fun o w => ∃ a1 : Nat → Nat → Int32, o = none ∧ (∀ j, j ≠ 6 → j ≠ 7 → a1 j = a j) ∧ (∀ x y, x < n → y < R → a1 7 (x * 8 + y) = coI (g 2 + 1) a D x y (2 * D * m)) ∧ w = cw E ad fl g a1 v tl) := by
  refine Ct.of (by decide) (Nat.le_of_ble_eq_true rfl) (fun X C hQ hin => ?_)
  have C : Cx E X cX3_fillCosts 3 RX3 none 2 80 0 0 := C
  obtain ⟨⟨d0, d0a, d0b⟩, ⟨d1, d1a, d1b⟩, ⟨d2, d2a, d2b⟩, ⟨d4, d4a⟩, d5, ⟨d6, d6a⟩, dcm, dn0, dn1⟩ := id hd
  have inner : ∀ (i : Nat), i < n → (∀ (a1 : Nat → Nat → Int32), (∀ j, j ≠ 6 → j ≠ 7 → a1 j = a j) → (∀ x y, x < n → y < R → (x < i ∨ (x = i ∧ y < R)) → a1 7 (x * 8 + y) = coI (g 2 + 1) a D x y (2 * D * m)) → GG E X (cw E ad fl g a1 v tl) 0 0 50 [(0, .ref (ad 13)), (1, .int (nI i)), (2, .int (nI R))] []) → ∀ (m1 r : Nat) (a1 : Nat → Nat → Int32), R < r + m1 → r ≤ R → (∀ j, j ≠ 6 → j ≠ 7 → a1 j = a j) → (∀ c, c < 2 * D * m → a1 6 c = wtI (g 2 + 1) a D i c) → (∀ x y, x < n → y < R → (x < i ∨ (x = i ∧ y < r)) → a1 7 (x * 8 + y) = coI (g 2 + 1) a D x y (2 * D * m)) → GG E X (cw E ad fl g a1 v tl) 0 0 17 [(0, .ref (ad 13)), (1, .int (nI i)), (2, .int (nI r))] [] := by
    intro i hiN out
    intro m1
    induction m1 with
    | zero => intro r a1 hm hi; omega
    | succ m1 ih =>
      intro r a1 hm hi ho hw hq
      refine mg_iload_n C dX3_fillCosts_17 rfl ?_
      refine mg_aload_n C dX3_fillCosts_18 rfl ?_
      refine mg_get C inG_X3 fX3_27 (ci := 3) rfl rfl 13 rfl rfl dX3_fillCosts_19 ?_
      refine mg_getN C inG_X1 fX3_109 (ci := 1) rfl rfl 18 rfl rfl dX3_fillCosts_22 ?_
      refine mg_icmp_ge C 50 dX3_fillCosts_25 (by decide) (fun h25 => ?_) (fun h25 => ?_)
      · have hge : r = R := (by rcases Nat.lt_or_ge r R with h | h; exact absurd (by rw [d0] at h25; exact h25) (nI_ge h (by omega)); omega)
        subst hge
        exact out a1 ho (fun x y hx hy hxy => hq x y hx hy (by omega))
      · have hlt : r < R := (by rcases Nat.lt_or_ge r R with h | h; exact h; exact absurd (by rw [d0]; exact nI_le h (by omega)) h25)
        have hinc : vp_in (nI (i * 8 + r)) 64 := vp_in_nI (by omega) (by decide)
        refine mg_aload_n C dX3_fillCosts_28 rfl ?_
        refine mg_get C inG_X3 fX3_21 (ci := 3) rfl rfl 13 rfl rfl dX3_fillCosts_29 ?_
        refine mg_iload_n C dX3_fillCosts_32 rfl ?_
        refine mg_bipush (v := 8) C dX3_fillCosts_33 (by decide) ?_
        refine mg_imul C dX3_fillCosts_35 ?_
        refine mg_iload_n C dX3_fillCosts_36 rfl ?_
        refine mg_iadd C dX3_fillCosts_37 ?_
        refine mg_tos (w := .int (nI (i * 8 + r))) (by rw [show (8 : Int32) = nI 8 from rfl, pk_mul, nI_add]) ?_
        refine mg_aload_n C dX3_fillCosts_38 rfl ?_
        refine mg_iload_n C dX3_fillCosts_39 rfl ?_
        refine mg_callV C (cw_X3_costOn E _ _ _ _ _ _ R Cc T n m D hd a i r (by omega) (ho 1 (by decide) (by decide)) hw) oX3_123 13 rfl rfl rfl rfl rfl dX3_fillCosts_40 (fun o40 w40 z40 => ?_)
        obtain ⟨rfl, rfl⟩ := z40
        refine mg_v ?_
        refine mg_tos (w := .int (coI (g 2 + 1) a D i r (2 * D * m))) (rfl) ?_
        refine mg_iast C 9 rfl (hinc) dX3_fillCosts_43 (ws' := (cw E ad fl g (ups a1 7 ((nI (i * 8 + r)) : Int32).toNatClampNeg (coI (g 2 + 1) a D i r (2 * D * m))) v tl)) rfl ?_
        refine mg_iinc C dX3_fillCosts_44 rfl rfl ?_
        refine mg_lve (lv' := [(0, _), (1, _), (2, _)]) rfl ?_
        refine mg_goto C 17 dX3_fillCosts_47 (by decide) ?_
        rw [show nI r + Int32.ofInt 1 = nI (r + 1) from (nI_succ r).symm]
        refine ih (r + 1) _ (by omega) (by omega) (fun j h6 h7 => (ups_n h7).trans (ho j h6 h7)) (fun c hc => hw c hc) (fun x y hx hy hxy => ?_)
        show upd (a1 7) _ _ (x * 8 + y) = _
        rw [nI_clamp (by omega)]
        by_cases e : x = i ∧ y = r
        · rw [e.1, e.2, pk_us]
        · rw [pk_un (by omega)]; exact hq x y hx hy (by omega)
  have loop : ∀ (m1 i : Nat) (a1 : Nat → Nat → Int32), n < i + m1 → i ≤ n → (∀ j, j ≠ 6 → j ≠ 7 → a1 j = a j) → (∀ x y, x < n → y < R → (x < i ∨ (x = i ∧ y < 0)) → a1 7 (x * 8 + y) = coI (g 2 + 1) a D x y (2 * D * m)) → GG E X (cw E ad fl g a1 v tl) 0 0 2 [(0, .ref (ad 13)), (1, .int (nI i))] [] := by
    intro m1
    induction m1 with
    | zero => intro i a1 hm hi; omega
    | succ m1 ih =>
      intro i a1 hm hi ho hq
      refine mg_iload_n C dX3_fillCosts_2 rfl ?_
      refine mg_aload_n C dX3_fillCosts_3 rfl ?_
      refine mg_get C inG_X3 fX3_31 (ci := 3) rfl rfl 13 rfl rfl dX3_fillCosts_4 ?_
      refine mg_icmp_ge C 56 dX3_fillCosts_7 (by decide) (fun h7 => ?_) (fun h7 => ?_)
      · have hge : i = n := (by rcases Nat.lt_or_ge i n with h | h; exact absurd (by rw [d4] at h7; exact h7) (nI_ge h (by omega)); omega)
        subst hge
        exact mg_vret C hQ dX3_fillCosts_56 (⟨a1, rfl, ho, fun x y hx hy => hq x y hx hy (by omega), rfl⟩)
      · have hlt : i < n := (by rcases Nat.lt_or_ge i n with h | h; exact h; exact absurd (by rw [d4]; exact nI_le h (by omega)) h7)
        refine mg_aload_n C dX3_fillCosts_10 rfl ?_
        refine mg_iload_n C dX3_fillCosts_11 rfl ?_
        refine mg_callV C (cw_X3_spellRow E _ _ _ _ _ _ R Cc T n m D hd i hlt) oX3_76 13 rfl rfl rfl rfl rfl dX3_fillCosts_12 (fun o12 w12 z12 => ?_)
        obtain ⟨a2, rfl, ho2, hw2, rfl⟩ := z12
        refine mg_v0 ?_
        refine mg_iconst (v := 0) C dX3_fillCosts_15 (by decide) ?_
        refine mg_istore_n C dX3_fillCosts_16 rfl ?_
        refine mg_lve (lv' := [(0, _), (1, _), (2, _)]) rfl ?_
        have ewt : ∀ c, wtI (g 2 + 1) a1 D i c = wtI (g 2 + 1) a D i c := (fun c => by unfold wtI; rw [ho 4 (by decide) (by decide)])
        refine inner i hlt (fun a3 ho3 hq3 => ?_) (R + 1) 0 a2 (by omega) (by omega) (fun j h6 h7 => (ho2 j h6).trans (ho j h6 h7)) (fun c hc => (hw2 c hc).trans (ewt c)) (fun x y hx hy hxy => by rw [ho2 7 (by decide)]; exact hq x y hx hy (by omega))
        refine mg_iinc C dX3_fillCosts_50 rfl rfl ?_
        refine mg_goto C 2 dX3_fillCosts_53 (by decide) ?_
        refine mg_lv (lv' := [(0, _), (1, _)]) (lv_tk 2 rfl) ?_
        rw [show nI i + Int32.ofInt 1 = nI (i + 1) from (nI_succ i).symm]
        exact ih (i + 1) a3 (by omega) (by omega) ho3 (fun x y hx hy hxy => hq3 x y hx hy (by omega))
  refine mg_iconst (v := 0) C dX3_fillCosts_0 (by decide) ?_
  refine mg_istore_n C dX3_fillCosts_1 rfl ?_
  refine mg_lve (lv' := [(0, _), (1, _)]) rfl ?_
  exact loop (n + 1) 0 a (by omega) (by omega) (fun _ _ _ => rfl) (fun x y hx hy hxy => absurd hxy (by omega))
theorem or256 {u r : Nat} (hu : u < 256) (hr : r < 8) : u ||| 1 <<< r < 256 := by
  refine Nat.or_lt_two_pow (n := 8) hu ?_
  rw [Nat.shiftLeft_eq, Nat.one_mul]
  exact Nat.pow_lt_pow_right (by omega) hr
theorem orR {R u r : Nat} (hu : u < 2 ^ R) (hr : r < R) : u ||| 1 <<< r < 2 ^ R := by
  refine Nat.or_lt_two_pow (n := R) hu ?_
  rw [Nat.shiftLeft_eq, Nat.one_mul]
  exact Nat.pow_lt_pow_right (by omega) hr
theorem or_eq {u r : Nat} (hr : r < 8) : nI u ||| (1 : Int32) <<< (nI r &&& 31) = nI (u ||| 1 <<< r) := by
  rw [show (1 : Int32) = nI 1 from rfl, ni_shl (by omega), ni_or]
theorem bit_of : ∀ u, u < 256 → ∀ r, r < 8 → (u >>> r) &&& 1 = if u.testBit r = true then 1 else 0 := by decide +kernel
theorem bit_I {u r : Nat} (hu : u < 256) (hr : r < 8) : nI u >>> (nI r &&& 31) &&& 1 = nI (if u.testBit r = true then 1 else 0) := by
  rw [ni_shr (by omega) (by omega), show (1 : Int32) = nI 1 from rfl, ni_and, bit_of u hu r hr]
def lsI : Option (Nat × Nat) → Int32
  | none => 2147483647
  | some p => nI p.1
set_option maxHeartbeats 400000 in
set_option maxRecDepth 100000 in
theorem ct_X3_costWith (E : En) (ad : Nat → Nat) (fl : Nat) (g : Nat → Int32) (a : Nat → Nat → Int32) (v : Nat → Int64) (tl : va_W) (i u r q1 q2 : Nat) (hi : i < 8) (hu : u < 256) (hr : r < 8) (h7 : a 7 (i * 8 + r) = nI q1) (h8 : a 8 (u ||| 1 <<< r) = nI q2) : Ct E mX3_costWith 0 0 0 [.ref (ad 13), .int (nI i), .int (nI u), .int (nI r)] (cw E ad fl g a v tl) (fun o w => o = some (.int (nI (q1 + q2))) ∧ w = cw E ad fl g a v tl) := by
  refine Ct.of (by decide) (Nat.le_of_ble_eq_true rfl) (fun X C hQ hin => ?_)
  have C : Cx E X cX3_costWith 4 RX3 (some .int) 0 0 0 0 := C
  refine mg_aload_n C dX3_costWith_0 rfl ?_
  refine mg_get C inG_X3 fX3_21 (ci := 3) rfl rfl 13 rfl rfl dX3_costWith_1 ?_
  refine mg_iload_n C dX3_costWith_4 rfl ?_
  refine mg_bipush (v := 8) C dX3_costWith_5 (by decide) ?_
  refine mg_imul C dX3_costWith_7 ?_
  refine mg_iload_n C dX3_costWith_8 rfl ?_
  refine mg_iadd C dX3_costWith_9 ?_
  refine mg_tos (w := .int (nI (i * 8 + r))) (by rw [show (8 : Int32) = nI 8 from rfl, pk_mul, nI_add]) ?_
  refine mg_iald C 9 rfl ((vp_in_nI (by omega) (by decide))) dX3_costWith_10 ?_
  refine mg_tos (w := .int (nI q1)) (by rw [nI_clamp (by omega), h7]) ?_
  refine mg_aload_n C dX3_costWith_11 rfl ?_
  refine mg_get C inG_X3 fX3_24 (ci := 3) rfl rfl 13 rfl rfl dX3_costWith_12 ?_
  refine mg_iload_n C dX3_costWith_15 rfl ?_
  refine mg_iconst (v := 1) C dX3_costWith_16 (by decide) ?_
  refine mg_iload_n C dX3_costWith_17 rfl ?_
  refine mg_ishl C dX3_costWith_18 ?_
  refine mg_ior C dX3_costWith_19 ?_
  refine mg_tos (w := .int (nI (u ||| 1 <<< r))) (by rw [or_eq hr]) ?_
  refine mg_iald C 8 rfl ((vp_in_nI (or256 hu hr) (by decide))) dX3_costWith_20 ?_
  refine mg_tos (w := .int (nI q2)) (by rw [nI_clamp (by have := or256 hu hr; omega), h8]) ?_
  refine mg_iadd C dX3_costWith_21 ?_
  exact mg_iret C hQ dX3_costWith_22 (⟨by rw [nI_add], rfl⟩)
set_option maxHeartbeats 400000 in
set_option maxRecDepth 100000 in
theorem cw_X3_leastFrom (E : En) (ad : Nat → Nat) (fl : Nat) (g : Nat → Int32) (a : Nat → Nat → Int32) (v : Nat → Int64) (tl : va_W) (R i u : Nat) (d0 : g 0 = nI R) (hR : R ≤ 8) (hi8 : i < 8) (hu : u < 256) (val : Nat → Nat) (hval : ∀ r, r < R → ¬ u.testBit r = true → ∃ q1 q2, a 7 (i * 8 + r) = nI q1 ∧ a 8 (u ||| 1 <<< r) = nI q2 ∧ q1 + q2 = val r) (hv20 : ∀ r, r < R → val r < 1000000) : Ct E mX3_leastFrom 1 0 0 [.ref (ad 13), .int (nI i), .int (nI u)] (cw E ad fl g a v tl) (fun o w => o = some (.int (lsI (scn u val R))) ∧ w = cw E ad fl g a v tl) := by
  refine Ct.of (by decide) (Nat.le_of_ble_eq_true rfl) (fun X C hQ hin => ?_)
  have C : Cx E X cX3_leastFrom 5 RX3 (some .int) 1 40 0 0 := C
  have loop : ∀ (m1 r : Nat), R < r + m1 → r ≤ R → GG E X (cw E ad fl g a v tl) 0 0 6 [(0, .ref (ad 13)), (1, .int (nI i)), (2, .int (nI u)), (3, .int (lsI (scn u val r))), (4, .int (nI r))] [] := by
    intro m1
    induction m1 with
    | zero => intro r hm hi; omega
    | succ m1 ih =>
      intro r hm hi
      refine mg_iload C dX3_leastFrom_6 rfl ?_
      refine mg_aload_n C dX3_leastFrom_8 rfl ?_
      refine mg_get C inG_X3 fX3_27 (ci := 3) rfl rfl 13 rfl rfl dX3_leastFrom_9 ?_
      refine mg_getN C inG_X1 fX3_109 (ci := 1) rfl rfl 18 rfl rfl dX3_leastFrom_12 ?_
      refine mg_icmp_ge C 46 dX3_leastFrom_15 (by decide) (fun h15 => ?_) (fun h15 => ?_)
      · have hge : r = R := (by rcases Nat.lt_or_ge r R with h | h; exact absurd (by rw [d0] at h15; exact h15) (nI_ge h (by omega)); omega)
        subst hge
        refine mg_iload_n C dX3_leastFrom_46 rfl ?_
        exact mg_iret C hQ dX3_leastFrom_47 (⟨rfl, rfl⟩)
      · have hlt : r < R := (by rcases Nat.lt_or_ge r R with h | h; exact h; exact absurd (by rw [d0]; exact nI_le h (by omega)) h15)
        refine mg_iload_n C dX3_leastFrom_18 rfl ?_
        refine mg_iload C dX3_leastFrom_19 rfl ?_
        refine mg_ishr C dX3_leastFrom_21 ?_
        refine mg_iconst (v := 1) C dX3_leastFrom_22 (by decide) ?_
        refine mg_iand C dX3_leastFrom_23 ?_
        refine mg_tos (w := .int (nI (if u.testBit r = true then 1 else 0))) (by rw [bit_I hu (by omega)]) ?_
        refine mg_if_ne C 40 dX3_leastFrom_24 (by decide) (fun h24 => ?_) (fun h24 => ?_)
        · refine mg_iinc C dX3_leastFrom_40 rfl rfl ?_
          refine mg_lve (lv' := [(0, _), (1, _), (2, _), (3, _), (4, _)]) rfl ?_
          refine mg_goto C 6 dX3_leastFrom_43 (by decide) ?_
          have hbt : u.testBit r = true := (by by_cases q : u.testBit r = true; exact q; rw [if_neg q] at h24; exact absurd rfl h24)
          refine mg_lve (lv' := [(0, .ref (ad 13)), (1, .int (nI i)), (2, .int (nI u)), (3, .int (lsI (scn u val (r + 1)))), (4, .int (nI (r + 1)))]) (by rw [scn, if_pos hbt, nI_succ r]; rfl) ?_
          exact ih (r + 1) (by omega) (by omega)
        · have hbt : ¬ u.testBit r = true := (by intro q; rw [if_pos q] at h24; exact absurd h24 (by decide))
          obtain ⟨q1, q2, e7, e8, e9⟩ := hval r hlt hbt
          have hvr := hv20 r hlt
          refine mg_iload_n C dX3_leastFrom_27 rfl ?_
          refine mg_aload_n C dX3_leastFrom_28 rfl ?_
          refine mg_iload_n C dX3_leastFrom_29 rfl ?_
          refine mg_iload_n C dX3_leastFrom_30 rfl ?_
          refine mg_iload C dX3_leastFrom_31 rfl ?_
          refine mg_callV C (ct_X3_costWith E _ _ _ _ _ _ i u r q1 q2 hi8 hu (by omega) e7 e8) oX3_134 13 rfl rfl rfl rfl rfl dX3_leastFrom_33 (fun o33 w33 z33 => ?_)
          obtain ⟨rfl, rfl⟩ := z33
          refine mg_v ?_
          refine mg_tos (w := .int (nI (val r))) (by rw [e9]) ?_
          refine mg_mmin C dX3_leastFrom_36 oX3_138m rfl ?_
          refine mg_tos (w := .int (lsI (scn u val (r + 1)))) ?_ ?_
          · rw [scn, if_neg hbt]
            rcases scn_ok u val r with ⟨h1, -⟩ | ⟨v1, r1, h1, h2, -, h4, -, -⟩
            · rw [h1]
              exact congrArg Value.int (if_pos (show nI (val r) < 2147483647 from nI_lt (b := 2147483647) (by omega) (by decide)))
            · rw [h1]
              have hv1 : v1 < 1000000 := (by rw [← h4]; exact hv20 r1 (by omega))
              show Value.int (if nI (val r) < nI v1 then nI (val r) else nI v1) = Value.int (lsI (if val r < v1 then some (val r, r) else some (v1, r1)))
              by_cases hlt2 : val r < v1
              · rw [if_pos hlt2, if_pos (nI_lt hlt2 (by omega))]; rfl
              · rw [if_neg hlt2, if_neg (nI_nlt (by omega) (by omega))]; rfl
          refine mg_istore_n C dX3_leastFrom_39 rfl ?_
          refine mg_lve (lv' := [(0, _), (1, _), (2, _), (3, _), (4, _)]) rfl ?_
          refine mg_iinc C dX3_leastFrom_40 rfl rfl ?_
          refine mg_lve (lv' := [(0, _), (1, _), (2, _), (3, _), (4, _)]) rfl ?_
          refine mg_goto C 6 dX3_leastFrom_43 (by decide) ?_
          refine mg_lve (lv' := [(0, .ref (ad 13)), (1, .int (nI i)), (2, .int (nI u)), (3, .int (lsI (scn u val (r + 1)))), (4, .int (nI (r + 1)))]) (by rw [nI_succ r]; rfl) ?_
          exact ih (r + 1) (by omega) (by omega)
  refine mg_ldc C dX3_leastFrom_0 kX3_133 ?_
  refine mg_istore_n C dX3_leastFrom_2 rfl ?_
  refine mg_lve (lv' := [(0, _), (1, _), (2, _), (3, _)]) rfl ?_
  refine mg_iconst (v := 0) C dX3_leastFrom_3 (by decide) ?_
  refine mg_istore C dX3_leastFrom_4 rfl ?_
  refine mg_lve (lv' := [(0, _), (1, _), (2, _), (3, _), (4, _)]) rfl ?_
  exact loop (R + 1) 0 (by omega) (by omega)
set_option maxHeartbeats 400000 in
set_option maxRecDepth 100000 in
theorem cw_X3_firstLeastRow (E : En) (ad : Nat → Nat) (fl : Nat) (g : Nat → Int32) (a : Nat → Nat → Int32) (v : Nat → Int64) (tl : va_W) (R i u : Nat) (d0 : g 0 = nI R) (hR1 : 1 ≤ R) (hR : R ≤ 8) (hi8 : i < 8) (hu : u < 256) (val : Nat → Nat) (hval : ∀ r, r < R → ¬ u.testBit r = true → ∃ q1 q2, a 7 (i * 8 + r) = nI q1 ∧ a 8 (u ||| 1 <<< r) = nI q2 ∧ q1 + q2 = val r) (hv20 : ∀ r, r < R → val r < 1000000) (vv rr : Nat) (s2 : rr < R) (s3 : ¬ u.testBit rr = true) (s4 : val rr = vv) (s6 : ∀ x, x < rr → ¬ u.testBit x = true → vv < val x) (h8u : a 8 u = nI vv) : Ct E mX3_firstLeastRow 1 0 0 [.ref (ad 13), .int (nI i), .int (nI u)] (cw E ad fl g a v tl) (fun o w => o = some (.int (nI rr)) ∧ w = cw E ad fl g a v tl) := by
  refine Ct.of (by decide) (Nat.le_of_ble_eq_true rfl) (fun X C hQ hin => ?_)
  have C : Cx E X cX3_firstLeastRow 4 RX3 (some .int) 1 40 0 0 := C
  have loop : ∀ (m1 r : Nat), R < r + m1 → r ≤ rr → GG E X (cw E ad fl g a v tl) 0 0 2 [(0, .ref (ad 13)), (1, .int (nI i)), (2, .int (nI u)), (3, .int (nI r))] [] := by
    intro m1
    induction m1 with
    | zero => intro r hm hi; omega
    | succ m1 ih =>
      intro r hm hi
      refine mg_iload_n C dX3_firstLeastRow_2 rfl ?_
      refine mg_aload_n C dX3_firstLeastRow_3 rfl ?_
      refine mg_get C inG_X3 fX3_27 (ci := 3) rfl rfl 13 rfl rfl dX3_firstLeastRow_4 ?_
      refine mg_getN C inG_X1 fX3_109 (ci := 1) rfl rfl 18 rfl rfl dX3_firstLeastRow_7 ?_
      refine mg_iconst (v := 1) C dX3_firstLeastRow_10 (by decide) ?_
      refine mg_isub C dX3_firstLeastRow_11 ?_
      refine mg_tos (w := .int (nI (R - 1))) (by rw [d0, show (1 : Int32) = nI 1 from rfl, pk_sub hR1]) ?_
      refine mg_icmp_ge C 46 dX3_firstLeastRow_12 (by decide) (fun h12 => ?_) (fun h12 => ?_)
      · have hrr : r = rr := (by rcases Nat.lt_or_ge r (R - 1) with h | h; exact absurd h12 (nI_ge h (by omega)); omega)
        refine mg_iload_n C dX3_firstLeastRow_46 rfl ?_
        exact mg_iret C hQ dX3_firstLeastRow_47 (⟨by rw [hrr], rfl⟩)
      · have hlt : r < (R - 1) := (by rcases Nat.lt_or_ge r (R - 1) with h | h; exact h; exact absurd (nI_le h (by omega)) h12)
        have hinu : vp_in (nI u) 256 := vp_in_nI hu (by decide)
        have hvr := hv20 r (by omega)
        have hvz : vv < 1000000 := (by rw [← s4]; exact hv20 rr s2)
        refine mg_iload_n C dX3_firstLeastRow_15 rfl ?_
        refine mg_iload_n C dX3_firstLeastRow_16 rfl ?_
        refine mg_ishr C dX3_firstLeastRow_17 ?_
        refine mg_iconst (v := 1) C dX3_firstLeastRow_18 (by decide) ?_
        refine mg_iand C dX3_firstLeastRow_19 ?_
        refine mg_tos (w := .int (nI (if u.testBit r = true then 1 else 0))) (by rw [bit_I hu (by omega)]) ?_
        refine mg_iconst (v := 1) C dX3_firstLeastRow_20 (by decide) ?_
        refine mg_icmp_eq C 40 dX3_firstLeastRow_21 (by decide) (fun h21 => ?_) (fun h21 => ?_)
        · refine mg_iinc C dX3_firstLeastRow_40 rfl rfl ?_
          refine mg_lve (lv' := [(0, _), (1, _), (2, _), (3, _)]) rfl ?_
          refine mg_goto C 2 dX3_firstLeastRow_43 (by decide) ?_
          have hne : r ≠ rr := (by intro q; rw [q] at h21; rw [if_neg s3] at h21; exact absurd h21 (by decide))
          rw [show nI r + Int32.ofInt 1 = nI (r + 1) from (nI_succ r).symm]
          exact ih (r + 1) (by omega) (by omega)
        · have hbt : ¬ u.testBit r = true := (by intro q; rw [if_pos q] at h21; exact h21 rfl)
          obtain ⟨q1, q2, e7, e8, e9⟩ := hval r (by omega) hbt
          refine mg_aload_n C dX3_firstLeastRow_24 rfl ?_
          refine mg_iload_n C dX3_firstLeastRow_25 rfl ?_
          refine mg_iload_n C dX3_firstLeastRow_26 rfl ?_
          refine mg_iload_n C dX3_firstLeastRow_27 rfl ?_
          refine mg_callV C (ct_X3_costWith E _ _ _ _ _ _ i u r q1 q2 hi8 hu (by omega) e7 e8) oX3_134 13 rfl rfl rfl rfl rfl dX3_firstLeastRow_28 (fun o28 w28 z28 => ?_)
          obtain ⟨rfl, rfl⟩ := z28
          refine mg_v ?_
          refine mg_tos (w := .int (nI (val r))) (by rw [e9]) ?_
          refine mg_aload_n C dX3_firstLeastRow_31 rfl ?_
          refine mg_get C inG_X3 fX3_24 (ci := 3) rfl rfl 13 rfl rfl dX3_firstLeastRow_32 ?_
          refine mg_iload_n C dX3_firstLeastRow_35 rfl ?_
          refine mg_iald C 8 rfl (hinu) dX3_firstLeastRow_36 ?_
          refine mg_tos (w := .int (nI vv)) (by rw [nI_clamp (by omega), h8u]) ?_
          refine mg_icmp_eq C 46 dX3_firstLeastRow_37 (by decide) (fun h37 => ?_) (fun h37 => ?_)
          · have hrr : r = rr := (by have e5 := (nI_eq (by omega) (by omega)).mp h37; rcases Nat.lt_or_ge r rr with h | h; have h9 := s6 r h hbt; omega; omega)
            refine mg_iload_n C dX3_firstLeastRow_46 rfl ?_
            exact mg_iret C hQ dX3_firstLeastRow_47 (⟨by rw [hrr], rfl⟩)
          · refine mg_iinc C dX3_firstLeastRow_40 rfl rfl ?_
            refine mg_lve (lv' := [(0, _), (1, _), (2, _), (3, _)]) rfl ?_
            refine mg_goto C 2 dX3_firstLeastRow_43 (by decide) ?_
            have hne : r ≠ rr := (fun q => h37 (by rw [q, s4]))
            rw [show nI r + Int32.ofInt 1 = nI (r + 1) from (nI_succ r).symm]
            exact ih (r + 1) (by omega) (by omega)
  refine mg_iconst (v := 0) C dX3_firstLeastRow_0 (by decide) ?_
  refine mg_istore_n C dX3_firstLeastRow_1 rfl ?_
  refine mg_lve (lv' := [(0, _), (1, _), (2, _), (3, _)]) rfl ?_
  exact loop (R + 1) 0 (by omega) (by omega)
theorem dp_val {R n i u : Nat} {a : Nat → Nat → Int32} (hR : R ≤ 8) (cs : Nat → Nat → Nat) (hcs : ∀ x y, cs x y ≤ 400) (h7 : ∀ x y, x < n → y < R → a 7 (x * 8 + y) = nI (cs x y)) (hu : u < 2 ^ R) (hi : pcN u = i) (hin : i < n) (h8 : ∀ y, u < y → y < 2 ^ R → a 8 y = nI (opt cs R (n - pcN y) (pcN y) y)) : ∀ r, r < R → ¬ u.testBit r = true → ∃ q1 q2, a 7 (i * 8 + r) = nI q1 ∧ a 8 (u ||| 1 <<< r) = nI q2 ∧ q1 + q2 = (fun r => cs i r + opt cs R (n - (i + 1)) (i + 1) (u ||| 1 <<< r)) r := by
  intro r hr hb
  have h256 : 2 ^ R ≤ 256 := Nat.le_trans (Nat.pow_le_pow_right (by omega) hR) (by decide)
  have e1 := pc_or u (by omega) r (by omega) hb
  have e2 := pc_lt u (by omega) r (by omega) hb
  refine ⟨cs i r, opt cs R (n - (i + 1)) (i + 1) (u ||| 1 <<< r), h7 i r hin hr, ?_, rfl⟩
  rw [h8 _ e2 (orR hu hr), e1, hi]
theorem val_le {R n i u : Nat} {cs : Nat → Nat → Nat} (hcs : ∀ x y, cs x y ≤ 400) (hn : n ≤ 8) : ∀ r, r < R → (fun r => cs i r + opt cs R (n - (i + 1)) (i + 1) (u ||| 1 <<< r)) r < 1000000 := by
  intro r hr
  have e1 := hcs i r
  have e2 := opt_le hcs (R := R) (n - (i + 1)) (i + 1) (u ||| 1 <<< r)
  have e3 : 400 * (n - (i + 1)) ≤ 400 * 8 := Nat.mul_le_mul (Nat.le_refl _) (by omega)
  show cs i r + opt cs R (n - (i + 1)) (i + 1) (u ||| 1 <<< r) < 1000000
  omega
theorem opt_s {cs : Nat → Nat → Nat} {R n i u v r : Nat} (hin : i < n) (h : scn u (fun r => cs i r + opt cs R (n - (i + 1)) (i + 1) (u ||| 1 <<< r)) R = some (v, r)) : opt cs R (n - i) i u = v ∧ pik cs R (n - (i + 1)) i u = r := by
  rw [show n - i = (n - (i + 1)) + 1 by omega, opt, pik, h]
  exact ⟨rfl, rfl⟩
theorem pth_s {cs : Nat → Nat → Nat} {R n i u r : Nat} {f : Nat → Nat} (hin : i < n) (h : pik cs R (n - (i + 1)) i u = r) : pth cs R (n - i) i u f = pth cs R (n - (i + 1)) (i + 1) (u ||| 1 <<< r) (un f i r) := by
  rw [show n - i = (n - (i + 1)) + 1 by omega, pth, h]
set_option maxHeartbeats 400000 in
set_option maxRecDepth 100000 in
theorem cw_X3_chooseFirstLeast (E : En) (ad : Nat → Nat) (fl : Nat) (g : Nat → Int32) (a : Nat → Nat → Int32) (v : Nat → Int64) (tl : va_W) (R n : Nat) (d0 : g 0 = nI R) (hR1 : 1 ≤ R) (hR : R ≤ 8) (d4 : g 4 = nI n) (hn : n ≤ 8) (hnR : n ≤ R) (cs : Nat → Nat → Nat) (hcs : ∀ x y, cs x y ≤ 400) (h7 : ∀ x y, x < n → y < R → a 7 (x * 8 + y) = nI (cs x y)) (hdp : (∀ u, u < 2 ^ R → a 8 u = nI (opt cs R (n - pcN u) (pcN u) u))) : Ct E mX3_chooseFirstLeast 2 0 0 [.ref (ad 13)] (cw E ad fl g a v tl) (fun o w => ∃ (a1 : Nat → Nat → Int32) (f : Nat → Nat), o = none ∧ f = pth cs R n 0 0 (fun _ => 0) ∧ (∀ j, j ≠ 5 → a1 j = a j) ∧ ((∀ j, j < n → f j < 8 ∧ a1 5 j = nI (f j)) ∧ (∀ j, n ≤ j → a1 5 j = a 5 j)) ∧ w = cw E ad fl g a1 v tl) := by
  refine Ct.of (by decide) (Nat.le_of_ble_eq_true rfl) (fun X C hQ hin => ?_)
  have C : Cx E X cX3_chooseFirstLeast 3 RX3 none 2 80 0 0 := C
  have h256 : 2 ^ R ≤ 256 := Nat.le_trans (Nat.pow_le_pow_right (by omega) hR) (by decide)
  have loop : ∀ (m1 i u : Nat) (f : Nat → Nat) (a1 : Nat → Nat → Int32), n < i + m1 → i ≤ n → u < 2 ^ R → pcN u = i → pth cs R (n - i) i u f = pth cs R n 0 0 (fun _ => 0) → (∀ j, j ≠ 5 → a1 j = a j) → ((∀ j, j < i → f j < 8 ∧ a1 5 j = nI (f j)) ∧ (∀ j, i ≤ j → a1 5 j = a 5 j)) → GG E X (cw E ad fl g a1 v tl) 0 0 4 [(0, .ref (ad 13)), (1, .int (nI u)), (2, .int (nI i))] [] := by
    intro m1
    induction m1 with
    | zero => intro i u f a1 hm hi; omega
    | succ m1 ih =>
      intro i u f a1 hm hi hu hpc hpt ho h5
      refine mg_iload_n C dX3_chooseFirstLeast_4 rfl ?_
      refine mg_aload_n C dX3_chooseFirstLeast_5 rfl ?_
      refine mg_get C inG_X3 fX3_31 (ci := 3) rfl rfl 13 rfl rfl dX3_chooseFirstLeast_6 ?_
      refine mg_icmp_ge C 41 dX3_chooseFirstLeast_9 (by decide) (fun h9 => ?_) (fun h9 => ?_)
      · have hge : i = n := (by rcases Nat.lt_or_ge i n with h | h; exact absurd (by rw [d4] at h9; exact h9) (nI_ge h (by omega)); omega)
        subst hge
        exact mg_vret C hQ dX3_chooseFirstLeast_41 (⟨a1, f, rfl, by rw [← hpt, Nat.sub_self]; rfl, ho, h5, rfl⟩)
      · have hlt : i < n := (by rcases Nat.lt_or_ge i n with h | h; exact h; exact absurd (by rw [d4]; exact nI_le h (by omega)) h9)
        have hin8 : vp_in (nI i) 8 := vp_in_nI (by omega) (by decide)
        obtain ⟨r0, hr0, hr1⟩ := pc_ex R (by omega) u hu (by omega)
        obtain ⟨v1, r1, s1, s2, s3, s4, s5, s6⟩ := (scn_ok u (fun r => cs i r + opt cs R (n - (i + 1)) (i + 1) (u ||| 1 <<< r)) R).resolve_left (fun q => hr1 (q.2 r0 hr0))
        refine mg_aload_n C dX3_chooseFirstLeast_12 rfl ?_
        refine mg_get C inG_X3 fX3_15 (ci := 3) rfl rfl 13 rfl rfl dX3_chooseFirstLeast_13 ?_
        refine mg_iload_n C dX3_chooseFirstLeast_16 rfl ?_
        refine mg_aload_n C dX3_chooseFirstLeast_17 rfl ?_
        refine mg_iload_n C dX3_chooseFirstLeast_18 rfl ?_
        refine mg_iload_n C dX3_chooseFirstLeast_19 rfl ?_
        refine mg_callV C (cw_X3_firstLeastRow E _ _ _ _ _ _ R i u d0 hR1 hR (by omega) (by omega) (fun r => cs i r + opt cs R (n - (i + 1)) (i + 1) (u ||| 1 <<< r)) (dp_val hR cs hcs (fun x y hx hy => by rw [ho 7 (by decide)]; exact h7 x y hx hy) hu hpc hlt (fun y _ hy => by rw [ho 8 (by decide)]; exact hdp y hy)) (val_le hcs hn) v1 r1 s2 s3 s4 s6 (by rw [ho 8 (by decide), hdp u hu, hpc, (opt_s hlt s1).1])) oX3_141 13 rfl rfl rfl rfl rfl dX3_chooseFirstLeast_20 (fun o20 w20 z20 => ?_)
        obtain ⟨rfl, rfl⟩ := z20
        refine mg_v ?_
        refine mg_tos (w := .int (nI r1)) (rfl) ?_
        refine mg_iast C 11 rfl (hin8) dX3_chooseFirstLeast_23 (ws' := (cw E ad fl g (ups a1 5 ((nI i) : Int32).toNatClampNeg (nI r1)) v tl)) rfl ?_
        refine mg_iload_n C dX3_chooseFirstLeast_24 rfl ?_
        refine mg_iconst (v := 1) C dX3_chooseFirstLeast_25 (by decide) ?_
        refine mg_aload_n C dX3_chooseFirstLeast_26 rfl ?_
        refine mg_get C inG_X3 fX3_15 (ci := 3) rfl rfl 13 rfl rfl dX3_chooseFirstLeast_27 ?_
        refine mg_iload_n C dX3_chooseFirstLeast_30 rfl ?_
        refine mg_iald C 11 rfl (hin8) dX3_chooseFirstLeast_31 ?_
        refine mg_tos (w := .int (nI r1)) (by show Value.int (upd (a1 5) _ _ _) = _; rw [pk_us]) ?_
        refine mg_ishl C dX3_chooseFirstLeast_32 ?_
        refine mg_ior C dX3_chooseFirstLeast_33 ?_
        refine mg_tos (w := .int (nI (u ||| 1 <<< r1))) (by rw [or_eq (by omega)]) ?_
        refine mg_istore_n C dX3_chooseFirstLeast_34 rfl ?_
        refine mg_lve (lv' := [(0, _), (1, _), (2, _)]) rfl ?_
        refine mg_iinc C dX3_chooseFirstLeast_35 rfl rfl ?_
        refine mg_lve (lv' := [(0, _), (1, _), (2, _)]) rfl ?_
        refine mg_goto C 4 dX3_chooseFirstLeast_38 (by decide) ?_
        rw [show nI i + Int32.ofInt 1 = nI (i + 1) from (nI_succ i).symm]
        refine ih (i + 1) (u ||| 1 <<< r1) (un f i r1) _ (by omega) (by omega) (orR hu s2) (by rw [pc_or u (by omega) r1 (by omega) s3, hpc]) (by rw [← pth_s hlt (opt_s hlt s1).2]; exact hpt) (fun j hj => (ups_n hj).trans (ho j hj)) ⟨fun j hj => ?_, fun j hj => ?_⟩
        · show un f i r1 j < 8 ∧ upd (a1 5) _ _ j = nI (un f i r1 j)
          rw [nI_clamp (by omega)]
          by_cases e : j = i
          · rw [e, un_s, pk_us]; exact ⟨by omega, rfl⟩
          · rw [un_n e, pk_un e]; exact h5.1 j (by omega)
        · show upd (a1 5) _ _ j = _
          rw [nI_clamp (by omega), pk_un (by omega)]; exact h5.2 j (by omega)
  refine mg_iconst (v := 0) C dX3_chooseFirstLeast_0 (by decide) ?_
  refine mg_istore_n C dX3_chooseFirstLeast_1 rfl ?_
  refine mg_lve (lv' := [(0, _), (1, _)]) rfl ?_
  refine mg_iconst (v := 0) C dX3_chooseFirstLeast_2 (by decide) ?_
  refine mg_istore_n C dX3_chooseFirstLeast_3 rfl ?_
  refine mg_lve (lv' := [(0, _), (1, _), (2, _)]) rfl ?_
  exact loop (n + 1) 0 0 (fun _ => 0) a (by omega) (by omega) (Nat.pow_pos (by omega)) rfl rfl (fun _ _ => rfl) ⟨fun j hj => absurd hj (Nat.not_lt_zero j), fun _ _ => rfl⟩
set_option maxHeartbeats 400000 in
set_option maxRecDepth 100000 in
theorem cx_bitCount (E : En) (ws : va_W) (u : Nat) (hu : u < 256) : Ct E mJ6_bitCount_0f7a4 0 0 0 [.int (nI u)] ws (fun o w => o = some (.int (nI (pcN u))) ∧ w = ws) := by
  refine Ct.ofF (by decide +kernel) (Nat.le_of_ble_eq_true rfl) (fun X C hQ hin => ?_)
  have C : Cx E X cJ6_bitCount_0f7a4 1 RJ6 (some .int) 0 0 0 0 := C
  refine mg_iload_n C dJ6_bitCount_0f7a4_0 rfl ?_
  refine mg_iload_n C dJ6_bitCount_0f7a4_1 rfl ?_
  refine mg_iconst (v := 1) C dJ6_bitCount_0f7a4_2 (by decide) ?_
  refine mg_iushr C dJ6_bitCount_0f7a4_3 ?_
  refine mg_ldcw C dJ6_bitCount_0f7a4_4 kJ6_265 ?_
  refine mg_iand C dJ6_bitCount_0f7a4_7 ?_
  refine mg_isub C dJ6_bitCount_0f7a4_8 ?_
  refine mg_istore_n C dJ6_bitCount_0f7a4_9 rfl ?_
  refine mg_lve (lv' := [(0, _)]) rfl ?_
  refine mg_lve (lv' := [(0, .int (bcA (nI u)))]) rfl ?_
  refine mg_iload_n C dJ6_bitCount_0f7a4_10 rfl ?_
  refine mg_ldcw C dJ6_bitCount_0f7a4_11 kJ6_266 ?_
  refine mg_iand C dJ6_bitCount_0f7a4_14 ?_
  refine mg_iload_n C dJ6_bitCount_0f7a4_15 rfl ?_
  refine mg_iconst (v := 2) C dJ6_bitCount_0f7a4_16 (by decide) ?_
  refine mg_iushr C dJ6_bitCount_0f7a4_17 ?_
  refine mg_ldcw C dJ6_bitCount_0f7a4_18 kJ6_266 ?_
  refine mg_iand C dJ6_bitCount_0f7a4_21 ?_
  refine mg_iadd C dJ6_bitCount_0f7a4_22 ?_
  refine mg_istore_n C dJ6_bitCount_0f7a4_23 rfl ?_
  refine mg_lve (lv' := [(0, _)]) rfl ?_
  refine mg_lve (lv' := [(0, .int (bcB (bcA (nI u))))]) rfl ?_
  refine mg_iload_n C dJ6_bitCount_0f7a4_24 rfl ?_
  refine mg_iload_n C dJ6_bitCount_0f7a4_25 rfl ?_
  refine mg_iconst (v := 4) C dJ6_bitCount_0f7a4_26 (by decide) ?_
  refine mg_iushr C dJ6_bitCount_0f7a4_27 ?_
  refine mg_iadd C dJ6_bitCount_0f7a4_28 ?_
  refine mg_ldcw C dJ6_bitCount_0f7a4_29 kJ6_267 ?_
  refine mg_iand C dJ6_bitCount_0f7a4_32 ?_
  refine mg_istore_n C dJ6_bitCount_0f7a4_33 rfl ?_
  refine mg_lve (lv' := [(0, _)]) rfl ?_
  refine mg_lve (lv' := [(0, .int (bcC (bcB (bcA (nI u)))))]) rfl ?_
  refine mg_iload_n C dJ6_bitCount_0f7a4_34 rfl ?_
  refine mg_iload_n C dJ6_bitCount_0f7a4_35 rfl ?_
  refine mg_bipush (v := 8) C dJ6_bitCount_0f7a4_36 (by decide) ?_
  refine mg_iushr C dJ6_bitCount_0f7a4_38 ?_
  refine mg_iadd C dJ6_bitCount_0f7a4_39 ?_
  refine mg_istore_n C dJ6_bitCount_0f7a4_40 rfl ?_
  refine mg_lve (lv' := [(0, _)]) rfl ?_
  refine mg_lve (lv' := [(0, .int (bcD (bcC (bcB (bcA (nI u))))))]) rfl ?_
  refine mg_iload_n C dJ6_bitCount_0f7a4_41 rfl ?_
  refine mg_iload_n C dJ6_bitCount_0f7a4_42 rfl ?_
  refine mg_bipush (v := 16) C dJ6_bitCount_0f7a4_43 (by decide) ?_
  refine mg_iushr C dJ6_bitCount_0f7a4_45 ?_
  refine mg_iadd C dJ6_bitCount_0f7a4_46 ?_
  refine mg_istore_n C dJ6_bitCount_0f7a4_47 rfl ?_
  refine mg_lve (lv' := [(0, _)]) rfl ?_
  refine mg_lve (lv' := [(0, .int (bcE (bcD (bcC (bcB (bcA (nI u)))))))]) rfl ?_
  refine mg_iload_n C dJ6_bitCount_0f7a4_48 rfl ?_
  refine mg_bipush (v := 63) C dJ6_bitCount_0f7a4_49 (by decide) ?_
  refine mg_iand C dJ6_bitCount_0f7a4_51 ?_
  exact mg_iret C hQ dJ6_bitCount_0f7a4_52 (⟨congrArg (fun z => some (Value.int z)) (bc_ok u hu), rfl⟩)
theorem vin256 : vp_in 0 256 := by unfold vp_in; decide
theorem pc_8 : ∀ u, u < 256 → pcN u ≤ 8 := by decide +kernel
set_option maxHeartbeats 400000 in
set_option maxRecDepth 100000 in
theorem cw_X3_mapAnew (E : En) (ad : Nat → Nat) (fl : Nat) (g : Nat → Int32) (a : Nat → Nat → Int32) (v : Nat → Int64) (tl : va_W) (R Cc T n m D : Nat) (hd : Dim g R Cc T n m D) (cs : Nat → Nat → Nat) (hcs : ∀ x y, cs x y ≤ 400) (hco : ∀ x y, x < n → y < R → coI (g 2 + 1) a D x y (2 * D * m) = nI (cs x y)) : Ct E mX3_mapAnew 3 0 0 [.ref (ad 13)] (cw E ad fl g a v tl) (fun o w => ∃ (a1 : Nat → Nat → Int32), o = some (.int (nI (opt cs R n 0 0))) ∧ (∀ j, j ≠ 5 → j ≠ 6 → j ≠ 7 → j ≠ 8 → a1 j = a j) ∧ ((∀ j, j < n → pth cs R n 0 0 (fun _ => 0) j < 8 ∧ a1 5 j = nI (pth cs R n 0 0 (fun _ => 0) j)) ∧ (∀ j, n ≤ j → a1 5 j = a 5 j)) ∧ w = cw E ad fl g a1 v tl) := by
  refine Ct.of (by decide) (Nat.le_of_ble_eq_true rfl) (fun X C hQ hin => ?_)
  have C : Cx E X cX3_mapAnew 3 RX3 (some .int) 3 120 0 0 := C
  obtain ⟨⟨d0, d0a, d0b⟩, ⟨d1, d1a, d1b⟩, ⟨d2, d2a, d2b⟩, ⟨d4, d4a⟩, d5, ⟨d6, d6a⟩, dcm, dn0, dn1⟩ := id hd
  have h256 : 2 ^ R ≤ 256 := Nat.le_trans (Nat.pow_le_pow_right (by omega) d0b) (by decide)
  have loop : ∀ (m1 w : Nat) (a1 : Nat → Nat → Int32), w < m1 → w ≤ 2 ^ R → (∀ j, j ≠ 6 → j ≠ 7 → j ≠ 8 → a1 j = a j) → (∀ x y, x < n → y < R → a1 7 (x * 8 + y) = nI (cs x y)) → (∀ y, w ≤ y → y < 2 ^ R → a1 8 y = nI (opt cs R (n - pcN y) (pcN y) y)) → GG E X (cw E ad fl g a1 v tl) 0 0 16 [(0, .ref (ad 13)), (1, .int (nI w - 1))] [] := by
    intro m1
    induction m1 with
    | zero => intro w a1 hm hi; omega
    | succ m1 ih =>
      intro w a1 hm hi ho h7 hdp
      refine mg_iload_n C dX3_mapAnew_16 rfl ?_
      refine mg_if_lt C 55 dX3_mapAnew_17 (by decide) (fun h17 => ?_) (fun h17 => ?_)
      · have hw0 : w = 0 := (by rcases Nat.eq_zero_or_pos w with e | e; exact e; have e1 : nI w - 1 = nI (w - 1) := (by rw [show (1 : Int32) = nI 1 from rfl]; exact pk_sub e); rw [e1] at h17; exact absurd h17 (nI_pos (by omega)))
        subst hw0
        refine mg_aload_n C dX3_mapAnew_55 rfl ?_
        refine mg_callV C (cw_X3_chooseFirstLeast E _ _ _ _ _ _ R n d0 d0a d0b d4 (by omega) d4a cs hcs h7 (fun y hy => hdp y (by omega) hy)) oX3_120 13 rfl rfl rfl rfl rfl dX3_mapAnew_56 (fun o56 w56 z56 => ?_)
        obtain ⟨a2, f, rfl, ef, ho2, h52, rfl⟩ := z56
        refine mg_v0 ?_
        refine mg_aload_n C dX3_mapAnew_59 rfl ?_
        refine mg_get C inG_X3 fX3_24 (ci := 3) rfl rfl 13 rfl rfl dX3_mapAnew_60 ?_
        refine mg_iconst (v := 0) C dX3_mapAnew_63 (by decide) ?_
        refine mg_iald C 8 rfl (vin256) dX3_mapAnew_64 ?_
        refine mg_tos (w := .int (nI (opt cs R n 0 0))) (by rw [ho2 8 (by decide)]; exact congrArg Value.int (hdp 0 (Nat.le_refl _) (Nat.pow_pos (by omega)))) ?_
        exact mg_iret C hQ dX3_mapAnew_65 (⟨a2, rfl, fun j h5 h6 h7' h8 => (ho2 j h5).trans (ho j h6 h7' h8), by rw [← ef]; exact ⟨h52.1, fun j hj => by rw [h52.2 j hj, ho 5 (by decide) (by decide) (by decide)]⟩, rfl⟩)
      · obtain ⟨u, eu⟩ : ∃ u, w = u + 1 := ⟨w - 1, by rcases Nat.eq_zero_or_pos w with e | e; exact absurd (by rw [e]; decide) h17; omega⟩
        subst eu
        have euI : nI (u + 1) - 1 = nI u := nI_pred u
        rw [euI]
        have hinu : vp_in (nI u) 256 := vp_in_nI (by omega) (by decide)
        refine mg_iload_n C dX3_mapAnew_20 rfl ?_
        refine mg_callS C (cx_bitCount E _ u (by omega)) oX3_112 rfl rfl rfl dX3_mapAnew_21 (fun o21 w21 z21 => ?_)
        obtain ⟨rfl, rfl⟩ := z21
        refine mg_v ?_
        refine mg_istore_n C dX3_mapAnew_24 rfl ?_
        refine mg_lve (lv' := [(0, _), (1, _), (2, _)]) rfl ?_
        refine mg_aload_n C dX3_mapAnew_25 rfl ?_
        refine mg_get C inG_X3 fX3_24 (ci := 3) rfl rfl 13 rfl rfl dX3_mapAnew_26 ?_
        refine mg_iload_n C dX3_mapAnew_29 rfl ?_
        refine mg_iload_n C dX3_mapAnew_30 rfl ?_
        refine mg_aload_n C dX3_mapAnew_31 rfl ?_
        refine mg_get C inG_X3 fX3_31 (ci := 3) rfl rfl 13 rfl rfl dX3_mapAnew_32 ?_
        refine mg_icmp_ge C 47 dX3_mapAnew_35 (by decide) (fun h35 => ?_) (fun h35 => ?_)
        · have hpn : n ≤ pcN u := (by rcases Nat.lt_or_ge (pcN u) n with h | h; exact absurd (by rw [d4] at h35; exact h35) (nI_ge h (by omega)); exact h)
          refine mg_iconst (v := 0) C dX3_mapAnew_47 (by decide) ?_
          refine mg_tos (w := .int (nI (opt cs R (n - pcN u) (pcN u) u))) (by rw [show n - pcN u = 0 by omega]; rfl) ?_
          refine mg_iast C 8 rfl (hinu) dX3_mapAnew_48 (ws' := (cw E ad fl g (ups a1 8 ((nI u) : Int32).toNatClampNeg (nI (opt cs R (n - pcN u) (pcN u) u))) v tl)) rfl ?_
          refine mg_iinc C dX3_mapAnew_49 rfl rfl ?_
          refine mg_lve (lv' := [(0, _), (1, _), (2, _)]) rfl ?_
          refine mg_goto C 16 dX3_mapAnew_52 (by decide) ?_
          refine mg_lv (lv' := [(0, _), (1, _)]) (lv_tk 2 rfl) ?_
          rw [sub1]
          refine ih u _ (by omega) (by omega) (fun j h6 h7' h8 => (ups_n h8).trans (ho j h6 h7' h8)) h7 (fun y hy hy2 => ?_)
          show upd (a1 8) _ _ y = _
          rw [nI_clamp (by omega)]
          by_cases e : y = u
          · rw [e, pk_us]
          · rw [pk_un e]; exact hdp y (by omega) hy2
        · have hpn : pcN u < n := (by rcases Nat.lt_or_ge (pcN u) n with h | h; exact h; exact absurd (by rw [d4]; exact nI_le h (by have : pcN u ≤ 8 := pc_8 u (by omega); omega)) h35)
          refine mg_aload_n C dX3_mapAnew_38 rfl ?_
          refine mg_iload_n C dX3_mapAnew_39 rfl ?_
          refine mg_iload_n C dX3_mapAnew_40 rfl ?_
          refine mg_callV C (cw_X3_leastFrom E _ _ _ _ _ _ R (pcN u) u d0 d0b (by omega) (by omega) (fun r => cs (pcN u) r + opt cs R (n - ((pcN u) + 1)) ((pcN u) + 1) (u ||| 1 <<< r)) (dp_val d0b cs hcs h7 (by omega) rfl hpn (fun y hy hy2 => hdp y (by omega) hy2)) (val_le hcs (by omega))) oX3_117 13 rfl rfl rfl rfl rfl dX3_mapAnew_41 (fun o41 w41 z41 => ?_)
          obtain ⟨rfl, rfl⟩ := z41
          refine mg_v ?_
          refine mg_goto C 48 dX3_mapAnew_44 (by decide) ?_
          obtain ⟨r0, hr0, hr1⟩ := pc_ex R (by omega) u (by omega) (by omega)
          obtain ⟨v1, r1, s1, s2, s3, s4, s5, s6⟩ := (scn_ok u (fun r => cs (pcN u) r + opt cs R (n - ((pcN u) + 1)) ((pcN u) + 1) (u ||| 1 <<< r)) R).resolve_left (fun q => hr1 (q.2 r0 hr0))
          refine mg_tos (w := .int (nI (opt cs R (n - pcN u) (pcN u) u))) (by rw [(opt_s hpn s1).1, s1]; rfl) ?_
          refine mg_iast C 8 rfl (hinu) dX3_mapAnew_48 (ws' := (cw E ad fl g (ups a1 8 ((nI u) : Int32).toNatClampNeg (nI (opt cs R (n - pcN u) (pcN u) u))) v tl)) rfl ?_
          refine mg_iinc C dX3_mapAnew_49 rfl rfl ?_
          refine mg_lve (lv' := [(0, _), (1, _), (2, _)]) rfl ?_
          refine mg_goto C 16 dX3_mapAnew_52 (by decide) ?_
          refine mg_lv (lv' := [(0, _), (1, _)]) (lv_tk 2 rfl) ?_
          rw [sub1]
          refine ih u _ (by omega) (by omega) (fun j h6 h7' h8 => (ups_n h8).trans (ho j h6 h7' h8)) h7 (fun y hy hy2 => ?_)
          show upd (a1 8) _ _ y = _
          rw [nI_clamp (by omega)]
          by_cases e : y = u
          · rw [e, pk_us]
          · rw [pk_un e]; exact hdp y (by omega) hy2
  refine mg_aload_n C dX3_mapAnew_0 rfl ?_
  refine mg_callV C (cw_X3_fillCosts E _ _ _ _ _ _ R Cc T n m D hd) oX3_106 13 rfl rfl rfl rfl rfl dX3_mapAnew_1 (fun o1 w1 z1 => ?_)
  obtain ⟨a2, rfl, ho2, hq2, rfl⟩ := z1
  refine mg_v0 ?_
  refine mg_iconst (v := 1) C dX3_mapAnew_4 (by decide) ?_
  refine mg_aload_n C dX3_mapAnew_5 rfl ?_
  refine mg_get C inG_X3 fX3_27 (ci := 3) rfl rfl 13 rfl rfl dX3_mapAnew_6 ?_
  refine mg_getN C inG_X1 fX3_109 (ci := 1) rfl rfl 18 rfl rfl dX3_mapAnew_9 ?_
  refine mg_ishl C dX3_mapAnew_12 ?_
  refine mg_iconst (v := 1) C dX3_mapAnew_13 (by decide) ?_
  refine mg_isub C dX3_mapAnew_14 ?_
  refine mg_tos (w := .int (nI (2 ^ R) - 1)) (by rw [d0, show (1 : Int32) = nI 1 from rfl, ni_shl (by omega), Nat.shiftLeft_eq, Nat.one_mul]) ?_
  refine mg_istore_n C dX3_mapAnew_15 rfl ?_
  refine mg_lve (lv' := [(0, _), (1, _)]) rfl ?_
  exact loop (2 ^ R + 1) (2 ^ R) a2 (by omega) (Nat.le_refl _) (fun j h6 h7' _ => ho2 j h6 h7') (fun x y hx hy => by rw [hq2 x y hx hy]; exact hco x y hx hy) (fun y hy hy2 => absurd hy2 (by omega))
/-- the costs of table rows on ROWS; what map() answers and leaves -/
def csN (g : Nat → Int32) (a : Nat → Nat → Int32) (i r : Nat) : Nat := if i < (g 4).toNatClampNeg ∧ r < (g 0).toNatClampNeg then (coI (g 2 + 1) a (g 6).toNatClampNeg i r (2 * (g 6).toNatClampNeg * (g 5).toNatClampNeg)).toNatClampNeg % 400 else 0
def gMap (g : Nat → Int32) (a : Nat → Nat → Int32) : Int32 := if ex g = 0 then -3 else nI (opt (csN g a) (g 0).toNatClampNeg (g 4).toNatClampNeg 0 0)
def aMap (g : Nat → Int32) (a : Nat → Nat → Int32) : Nat → Nat → Int32 := if ex g = 0 then a else upa a 5 (fun j => if j < (g 4).toNatClampNeg then nI (pth (csN g a) (g 0).toNatClampNeg (g 4).toNatClampNeg 0 0 (fun _ => 0) j) else a 5 j)
theorem cs_le (g : Nat → Int32) (a : Nat → Nat → Int32) : ∀ x y, csN g a x y ≤ 400 := by
  intro x y
  unfold csN
  by_cases h : x < (g 4).toNatClampNeg ∧ y < (g 0).toNatClampNeg
  · rw [if_pos h]; exact Nat.le_of_lt (Nat.mod_lt _ (by decide))
  · rw [if_neg h]; exact Nat.zero_le _
theorem cs_co {g : Nat → Int32} {a : Nat → Nat → Int32} {R C T n m D : Nat} (hd : Dim g R C T n m D) (hX : XV a) : ∀ x y, x < n → y < R → coI (g 2 + 1) a D x y (2 * D * m) = nI (csN g a x y) := by
  intro x y hx hy
  have hm12 := M12 hd
  obtain ⟨⟨d0, d0a, d0b⟩, ⟨d1, d1a, d1b⟩, ⟨d2, d2a, d2b⟩, ⟨d4, d4a⟩, d5, ⟨d6, d6a⟩, dcm, dn0, dn1⟩ := hd
  obtain ⟨q, hq, e⟩ := co_le d2b hX (D := D) (i := x) (r := y) (m := m) (dn1 (by omega)).1 (by omega) (by omega) hm12 (by omega) (2 * D * m) (Nat.le_refl _)
  unfold csN
  rw [if_pos ⟨by rw [d4, nI_clamp (by omega)]; exact hx, by rw [d0, nI_clamp (by omega)]; exact hy⟩, d6, d5, nI_clamp (by omega), nI_clamp (by omega), d2, nI_1, e, nI_clamp (by omega), Nat.mod_eq_of_lt (by omega)]
set_option maxHeartbeats 400000 in
set_option maxRecDepth 100000 in
theorem cv_map (E : En) (ad : Nat → Nat) (fl : Nat) (g : Nat → Int32) (a : Nat → Nat → Int32) (v : Nat → Int64) (tl : va_W)  (hV : CV fl g a) (hX : XV a) : Ct E mX4_map 4 0 0 [.ref (ad 19)] (cw E ad fl g a v tl) (fun o w => ∃ (ad1 : Nat → Nat) (fl1 : Nat) (g1 : Nat → Int32) (a1 : Nat → Nat → Int32) (v1 : Nat → Int64), o = some (.int (gMap g a)) ∧ Sh g (aMap g a) g1 a1 ∧ CV fl1 g1 a1 ∧ ad1 19 = ad 19 ∧ w = cw E ad1 fl1 g1 a1 v1 tl) := by
  refine Ct.of (by decide) (Nat.le_of_ble_eq_true rfl) (fun X C hQ hin => ?_)
  have C : Cx E X cX4_map 1 RX4 (some .int) 4 160 0 0 := C
  obtain ⟨R, Cc, T, n, m, D, F, ⟨⟨d0, d0a, d0b⟩, ⟨d1, d1a, d1b⟩, ⟨d2, d2a, d2b⟩, ⟨d4, d4a⟩, d5, ⟨d6, d6a⟩, dcm, dn0, dn1⟩, ⟨dF, dF1, dF2⟩, drow, dout⟩ := id hV.1
  refine mg_aload_n C dX4_map_0 rfl ?_
  refine mg_get C inG_X4 fX4_21 (ci := 4) rfl rfl 19 rfl rfl dX4_map_1 ?_
  refine mg_callVN C (ct_X3_exists E _ _ _ _ _ _) oX4_116 13 rfl rfl rfl rfl rfl dX4_map_4 (fun o4 w4 z4 => ?_)
  obtain ⟨rfl, rfl⟩ := z4
  refine mg_v ?_
  refine mg_if_eq C 20 dX4_map_7 (by decide) (fun h7 => ?_) (fun h7 => ?_)
  · refine mg_bipush (v := (-3)) C dX4_map_20 (by decide) ?_
    exact mg_iret C hQ dX4_map_22 (⟨ad, fl, g, a, v, by rw [gMap, if_pos h7], by rw [aMap, if_pos h7]; exact Sh.rf, hV, rfl, rfl⟩)
  · refine mg_aload_n C dX4_map_10 rfl ?_
    refine mg_get C inG_X4 fX4_21 (ci := 4) rfl rfl 19 rfl rfl dX4_map_11 ?_
    refine mg_callVN C (cw_X3_mapAnew E _ _ _ _ _ _ R Cc T n m D ⟨⟨d0, d0a, d0b⟩, ⟨d1, d1a, d1b⟩, ⟨d2, d2a, d2b⟩, ⟨d4, d4a⟩, d5, ⟨d6, d6a⟩, dcm, dn0, dn1⟩ (csN g a) (cs_le g a) (cs_co ⟨⟨d0, d0a, d0b⟩, ⟨d1, d1a, d1b⟩, ⟨d2, d2a, d2b⟩, ⟨d4, d4a⟩, d5, ⟨d6, d6a⟩, dcm, dn0, dn1⟩ hX)) oX4_139 13 rfl rfl rfl rfl rfl dX4_map_14 (fun o14 w14 z14 => ?_)
    obtain ⟨a2, rfl, ho2, h52, rfl⟩ := z14
    refine mg_v ?_
    refine mg_goto C 22 dX4_map_17 (by decide) ?_
    exact mg_iret C hQ dX4_map_22 (by
    have er : (g 0).toNatClampNeg = R := (by rw [d0, nI_clamp (by omega)])
    have en : (g 4).toNatClampNeg = n := (by rw [d4, nI_clamp (by omega)])
    have k1 := ho2 1 (by decide) (by decide) (by decide) (by decide)
    refine ⟨ad, fl, g, a2, v, by rw [gMap, if_neg h7, er, en], ?_, ⟨hV.1.mv (fun _ _ => rfl) (fun j hj => ?_) (fun j _ => by rw [k1]), hV.2⟩, rfl, rfl⟩
    · rw [aMap, if_neg h7, er, en]
      refine ⟨fun _ _ => rfl, fun j _ => by rw [k1]; rfl, fun j _ => by rw [ho2 3 (by decide) (by decide) (by decide) (by decide)]; rfl, fun j _ => by rw [ho2 4 (by decide) (by decide) (by decide) (by decide)]; rfl, fun j _ => by rw [ho2 13 (by decide) (by decide) (by decide) (by decide)]; rfl, fun j hj => ?_⟩
      show a2 5 j = if j < n then _ else a 5 j
      by_cases q : j < n
      · rw [if_pos q]; exact (h52.1 j q).2
      · rw [if_neg q]; exact h52.2 j (by omega)
    · by_cases q : j < n
      · exact ⟨_, (h52.1 j q).1, (h52.1 j q).2⟩
      · rw [h52.2 j (by omega)]; exact drow j hj)
