set_option maxHeartbeats 400000 in
set_option maxRecDepth 100000 in
theorem mx_X5_findCosts (E : En) (ad : Nat → Nat) (g : Nat → Int32) (a : Nat → Nat → Int32) (v : Nat → Int64) (tl : va_W) (R Cc T n m D : Nat) (hd : Dim g R Cc T n m D) : Ct E mX5_findCosts 1 0 0 [.ref (ad 17)] (mw E ad g a v tl) (fun o w => ∃ a1 : Nat → Nat → Int32, o = none ∧ (∀ j, j ≠ 7 → a1 j = a j) ∧ (∀ x y, x < n → y < R → a1 7 (x * 8 + y) = coI (g 2 + 1) a D x y (2 * D * m)) ∧ w = mw E ad g a1 v tl) := by
  refine Ct.of (by decide) (Nat.le_of_ble_eq_true rfl) (fun X C hQ hin => ?_)
  have C : Cx E X cX5_findCosts 7 RX5 none 1 40 0 0 := C
  obtain ⟨⟨d0, d0a, d0b⟩, ⟨d1, d1a, d1b⟩, ⟨d2, d2a, d2b⟩, ⟨d4, d4a⟩, d5, ⟨d6, d6a⟩, dcm, dn0, dn1⟩ := id hd
  have lpc : ∀ (i r : Nat), i < n → r < R → ∀ (a1 : Nat → Nat → Int32), (∀ j, j ≠ 7 → a1 j = a j) → GG E X (mw E ad g a1 v tl) 0 0 99 [(0, .ref (ad 17)), (1, .int (nI i)), (2, .int (nI r)), (3, .int (coI (g 2 + 1) a D i r (2 * D * m))), (4, .int (nI (2 * D * m)))] [] → ∀ (m1 c : Nat), 2 * D * m < c + m1 → c ≤ 2 * D * m → GG E X (mw E ad g a1 v tl) 0 0 25 [(0, .ref (ad 17)), (1, .int (nI i)), (2, .int (nI r)), (3, .int (coI (g 2 + 1) a D i r c)), (4, .int (nI c))] [] := by
    intro i r hiN hrR a1 ho out
    intro m1
    induction m1 with
    | zero => intro c hm hi; omega
    | succ m1 ih =>
      intro c hm hi
      refine mg_iload C dX5_findCosts_25 rfl ?_
      refine mg_iconst (v := 2) C dX5_findCosts_27 (by decide) ?_
      refine mg_aload_n C dX5_findCosts_28 rfl ?_
      refine mg_get C inG_X5 fX5_88 (ci := 5) rfl rfl 17 rfl rfl dX5_findCosts_29 ?_
      refine mg_imul C dX5_findCosts_32 ?_
      refine mg_aload_n C dX5_findCosts_33 rfl ?_
      refine mg_get C inG_X5 fX5_85 (ci := 5) rfl rfl 17 rfl rfl dX5_findCosts_34 ?_
      refine mg_imul C dX5_findCosts_37 ?_
      refine mg_tos (w := .int (nI (2 * D * m))) (by rw [uc_eq d6 d5]) ?_
      refine mg_icmp_ge C 99 dX5_findCosts_38 (by decide) (fun h38 => ?_) (fun h38 => ?_)
      · have hge : c = 2 * D * m := (by rcases Nat.lt_or_ge c (2 * D * m) with h | h; exact absurd (h38) (nI_ge h (by omega)); omega)
        rw [hge]
        refine mg_lv (lv' := [(0, _), (1, _), (2, _), (3, _), (4, _)]) (lv_tk 5 rfl) ?_
        exact out
      · have hlt : c < (2 * D * m) := (by rcases Nat.lt_or_ge c (2 * D * m) with h | h; exact h; exact absurd (nI_le h (by omega)) h38)
        have hin9 : vp_in (nI (r * 24 + c)) 192 := vp_in_nI (by omega) (by decide)
        refine mg_aload_n C dX5_findCosts_41 rfl ?_
        refine mg_get C inG_X5 fX5_23 (ci := 5) rfl rfl 17 rfl rfl dX5_findCosts_42 ?_
        refine mg_bipush (v := 24) C dX5_findCosts_45 (by decide) ?_
        refine mg_iload_n C dX5_findCosts_47 rfl ?_
        refine mg_imul C dX5_findCosts_48 ?_
        refine mg_iload C dX5_findCosts_49 rfl ?_
        refine mg_iadd C dX5_findCosts_51 ?_
        refine mg_tos (w := .int (nI (r * 24 + c))) (by rw [pl_eq']) ?_
        refine mg_iald C 15 rfl (hin9) dX5_findCosts_52 ?_
        refine mg_tos (w := .int (a 1 (r * 24 + c))) (by rw [nI_clamp (by omega), ho 1 (by decide)]) ?_
        refine mg_istore C dX5_findCosts_53 rfl ?_
        refine mg_lve (lv' := [(0, _), (1, _), (2, _), (3, _), (4, _), (5, _)]) rfl ?_
        refine mg_iload C dX5_findCosts_55 rfl ?_
        refine mg_iconst (v := (-1)) C dX5_findCosts_57 (by decide) ?_
        refine mg_icmp_ne C 65 dX5_findCosts_58 (by decide) (fun h58 => ?_) (fun h58 => ?_)
        · refine mg_iload C dX5_findCosts_65 rfl ?_
          refine mg_aload_n C dX5_findCosts_67 rfl ?_
          refine mg_iload_n C dX5_findCosts_68 rfl ?_
          refine mg_iload C dX5_findCosts_69 rfl ?_
          refine mg_callV C (mx_X5_wanted E _ _ _ _ _ R Cc T n m D hd i c hiN hlt) oX5_129 17 rfl rfl rfl rfl rfl dX5_findCosts_71 (fun o71 w71 z71 => ?_)
          obtain ⟨rfl, rfl⟩ := z71
          refine mg_v ?_
          refine mg_tos (w := .int (wtI (g 2 + 1) a D i c)) (by unfold wtI; rw [ho 4 (by decide)]) ?_
          refine mg_isub C dX5_findCosts_74 ?_
          refine mg_istore C dX5_findCosts_75 rfl ?_
          refine mg_lve (lv' := [(0, _), (1, _), (2, _), (3, _), (4, _), (5, _), (6, _)]) rfl ?_
          refine mg_iload_n C dX5_findCosts_77 rfl ?_
          refine mg_iload C dX5_findCosts_78 rfl ?_
          refine mg_if_ge C 89 dX5_findCosts_80 (by decide) (fun h80 => ?_) (fun h80 => ?_)
          · refine mg_iload C dX5_findCosts_89 rfl ?_
            refine mg_iadd C dX5_findCosts_91 ?_
            refine mg_istore_n C dX5_findCosts_92 rfl ?_
            refine mg_lve (lv' := [(0, _), (1, _), (2, _), (3, _), (4, _), (5, _), (6, _)]) rfl ?_
            refine mg_iinc C dX5_findCosts_93 rfl rfl ?_
            refine mg_lve (lv' := [(0, _), (1, _), (2, _), (3, _), (4, _), (5, _), (6, _)]) rfl ?_
            refine mg_goto C 25 dX5_findCosts_96 (by decide) ?_
            refine mg_lv (lv' := [(0, .ref (ad 17)), (1, .int (nI i)), (2, .int (nI r)), (3, .int (coI (g 2 + 1) a D i r (c + 1))), (4, .int (nI (c + 1)))]) (lv_tk 5 (by rw [coI, if_neg h58, ab_p (Int32.not_lt.mpr h80), nI_succ c]; rfl)) ?_
            exact ih (c + 1) (by omega) (by omega)
          · refine mg_iload C dX5_findCosts_83 rfl ?_
            refine mg_ineg C dX5_findCosts_85 ?_
            refine mg_goto C 91 dX5_findCosts_86 (by decide) ?_
            refine mg_iadd C dX5_findCosts_91 ?_
            refine mg_istore_n C dX5_findCosts_92 rfl ?_
            refine mg_lve (lv' := [(0, _), (1, _), (2, _), (3, _), (4, _), (5, _), (6, _)]) rfl ?_
            refine mg_iinc C dX5_findCosts_93 rfl rfl ?_
            refine mg_lve (lv' := [(0, _), (1, _), (2, _), (3, _), (4, _), (5, _), (6, _)]) rfl ?_
            refine mg_goto C 25 dX5_findCosts_96 (by decide) ?_
            refine mg_lv (lv' := [(0, .ref (ad 17)), (1, .int (nI i)), (2, .int (nI r)), (3, .int (coI (g 2 + 1) a D i r (c + 1))), (4, .int (nI (c + 1)))]) (lv_tk 5 (by rw [coI, if_neg h58, ab_n (Int32.not_le.mp h80), nI_succ c]; rfl)) ?_
            exact ih (c + 1) (by omega) (by omega)
        · refine mg_iconst (v := 0) C dX5_findCosts_61 (by decide) ?_
          refine mg_goto C 75 dX5_findCosts_62 (by decide) ?_
          refine mg_istore C dX5_findCosts_75 rfl ?_
          refine mg_lve (lv' := [(0, _), (1, _), (2, _), (3, _), (4, _), (5, _), (6, _)]) rfl ?_
          refine mg_iload_n C dX5_findCosts_77 rfl ?_
          refine mg_iload C dX5_findCosts_78 rfl ?_
          refine mg_if_ge C 89 dX5_findCosts_80 (by decide) (fun h80 => ?_) (fun h80 => absurd h80 (fun hh => hh (by decide)))
          refine mg_iload C dX5_findCosts_89 rfl ?_
          refine mg_iadd C dX5_findCosts_91 ?_
          refine mg_istore_n C dX5_findCosts_92 rfl ?_
          refine mg_lve (lv' := [(0, _), (1, _), (2, _), (3, _), (4, _), (5, _), (6, _)]) rfl ?_
          refine mg_iinc C dX5_findCosts_93 rfl rfl ?_
          refine mg_lve (lv' := [(0, _), (1, _), (2, _), (3, _), (4, _), (5, _), (6, _)]) rfl ?_
          refine mg_goto C 25 dX5_findCosts_96 (by decide) ?_
          refine mg_lv (lv' := [(0, .ref (ad 17)), (1, .int (nI i)), (2, .int (nI r)), (3, .int (coI (g 2 + 1) a D i r (c + 1))), (4, .int (nI (c + 1)))]) (lv_tk 5 (by rw [coI, if_pos h58, nI_succ c]; rfl)) ?_
          exact ih (c + 1) (by omega) (by omega)
  have lpr : ∀ (i : Nat), i < n → (∀ (a1 : Nat → Nat → Int32), (∀ j, j ≠ 7 → a1 j = a j) → (∀ x y, x < n → y < R → (x < i ∨ (x = i ∧ y < R)) → a1 7 (x * 8 + y) = coI (g 2 + 1) a D x y (2 * D * m)) → GG E X (mw E ad g a1 v tl) 0 0 117 [(0, .ref (ad 17)), (1, .int (nI i)), (2, .int (nI R))] []) → ∀ (m1 r : Nat) (a1 : Nat → Nat → Int32), R < r + m1 → r ≤ R → (∀ j, j ≠ 7 → a1 j = a j) → (∀ x y, x < n → y < R → (x < i ∨ (x = i ∧ y < r)) → a1 7 (x * 8 + y) = coI (g 2 + 1) a D x y (2 * D * m)) → GG E X (mw E ad g a1 v tl) 0 0 12 [(0, .ref (ad 17)), (1, .int (nI i)), (2, .int (nI r))] [] := by
    intro i hiN out
    intro m1
    induction m1 with
    | zero => intro r a1 hm hi; omega
    | succ m1 ih =>
      intro r a1 hm hi ho hq
      refine mg_iload_n C dX5_findCosts_12 rfl ?_
      refine mg_aload_n C dX5_findCosts_13 rfl ?_
      refine mg_get C inG_X5 fX5_7 (ci := 5) rfl rfl 17 rfl rfl dX5_findCosts_14 ?_
      refine mg_icmp_ge C 117 dX5_findCosts_17 (by decide) (fun h17 => ?_) (fun h17 => ?_)
      · have hge : r = R := (by rcases Nat.lt_or_ge r R with h | h; exact absurd (by rw [d0] at h17; exact h17) (nI_ge h (by omega)); omega)
        subst hge
        exact out a1 ho (fun x y hx hy hxy => hq x y hx hy (by omega))
      · have hlt : r < R := (by rcases Nat.lt_or_ge r R with h | h; exact h; exact absurd (by rw [d0]; exact nI_le h (by omega)) h17)
        have hin6 : vp_in (nI (i * 8 + r)) 64 := vp_in_nI (by omega) (by decide)
        refine mg_iconst (v := 0) C dX5_findCosts_20 (by decide) ?_
        refine mg_istore_n C dX5_findCosts_21 rfl ?_
        refine mg_lve (lv' := [(0, _), (1, _), (2, _), (3, _)]) rfl ?_
        refine mg_iconst (v := 0) C dX5_findCosts_22 (by decide) ?_
        refine mg_istore C dX5_findCosts_23 rfl ?_
        refine mg_lve (lv' := [(0, _), (1, _), (2, _), (3, _), (4, _)]) rfl ?_
        refine lpc i r hiN hlt a1 ho ?_ (2 * D * m + 1) 0 (by omega) (by omega)
        refine mg_aload_n C dX5_findCosts_99 rfl ?_
        refine mg_get C inG_X5 fX5_47 (ci := 5) rfl rfl 17 rfl rfl dX5_findCosts_100 ?_
        refine mg_bipush (v := 8) C dX5_findCosts_103 (by decide) ?_
        refine mg_iload_n C dX5_findCosts_105 rfl ?_
        refine mg_imul C dX5_findCosts_106 ?_
        refine mg_iload_n C dX5_findCosts_107 rfl ?_
        refine mg_iadd C dX5_findCosts_108 ?_
        refine mg_tos (w := .int (nI (i * 8 + r))) (by rw [show (8 : Int32) = nI 8 from rfl, pk_mul, nI_add, Nat.mul_comm]) ?_
        refine mg_iload_n C dX5_findCosts_109 rfl ?_
        refine mg_iast C 8 rfl (hin6) dX5_findCosts_110 (ws' := (mw E ad g (ups a1 7 ((nI (i * 8 + r)) : Int32).toNatClampNeg (coI (g 2 + 1) a D i r (2 * D * m))) v tl)) rfl ?_
        refine mg_iinc C dX5_findCosts_111 rfl rfl ?_
        refine mg_lve (lv' := [(0, _), (1, _), (2, _), (3, _), (4, _)]) rfl ?_
        refine mg_goto C 12 dX5_findCosts_114 (by decide) ?_
        refine mg_lv (lv' := [(0, _), (1, _), (2, _)]) (lv_tk 3 rfl) ?_
        rw [show nI r + Int32.ofInt 1 = nI (r + 1) from (nI_succ r).symm]
        refine ih (r + 1) _ (by omega) (by omega) (fun j hj => (ups_n hj).trans (ho j hj)) (fun x y hx hy hxy => ?_)
        show upd (a1 7) _ _ (x * 8 + y) = _
        rw [nI_clamp (by omega)]
        by_cases e : x = i ∧ y = r
        · rw [e.1, e.2, pk_us]
        · rw [pk_un (by omega)]; exact hq x y hx hy (by omega)
  have lpi : ∀ (m1 i : Nat) (a1 : Nat → Nat → Int32), n < i + m1 → i ≤ n → (∀ j, j ≠ 7 → a1 j = a j) → (∀ x y, x < n → y < R → (x < i ∨ (x = i ∧ y < 0)) → a1 7 (x * 8 + y) = coI (g 2 + 1) a D x y (2 * D * m)) → GG E X (mw E ad g a1 v tl) 0 0 2 [(0, .ref (ad 17)), (1, .int (nI i))] [] := by
    intro m1
    induction m1 with
    | zero => intro i a1 hm hi; omega
    | succ m1 ih =>
      intro i a1 hm hi ho hq
      refine mg_iload_n C dX5_findCosts_2 rfl ?_
      refine mg_aload_n C dX5_findCosts_3 rfl ?_
      refine mg_get C inG_X5 fX5_82 (ci := 5) rfl rfl 17 rfl rfl dX5_findCosts_4 ?_
      refine mg_icmp_ge C 123 dX5_findCosts_7 (by decide) (fun h7 => ?_) (fun h7 => ?_)
      · have hge : i = n := (by rcases Nat.lt_or_ge i n with h | h; exact absurd (by rw [d4] at h7; exact h7) (nI_ge h (by omega)); omega)
        subst hge
        exact mg_vret C hQ dX5_findCosts_123 (⟨a1, rfl, ho, fun x y hx hy => hq x y hx hy (by omega), rfl⟩)
      · have hlt : i < n := (by rcases Nat.lt_or_ge i n with h | h; exact h; exact absurd (by rw [d4]; exact nI_le h (by omega)) h7)
        refine mg_iconst (v := 0) C dX5_findCosts_10 (by decide) ?_
        refine mg_istore_n C dX5_findCosts_11 rfl ?_
        refine mg_lve (lv' := [(0, _), (1, _), (2, _)]) rfl ?_
        refine lpr i hlt (fun a2 ho2 hq2 => ?_) (R + 1) 0 a1 (by omega) (by omega) ho (fun x y hx hy hxy => hq x y hx hy (by omega))
        refine mg_iinc C dX5_findCosts_117 rfl rfl ?_
        refine mg_goto C 2 dX5_findCosts_120 (by decide) ?_
        refine mg_lv (lv' := [(0, _), (1, _)]) (lv_tk 2 rfl) ?_
        rw [show nI i + Int32.ofInt 1 = nI (i + 1) from (nI_succ i).symm]
        exact ih (i + 1) a2 (by omega) (by omega) ho2 (fun x y hx hy hxy => hq2 x y hx hy (by omega))
  refine mg_iconst (v := 0) C dX5_findCosts_0 (by decide) ?_
  refine mg_istore_n C dX5_findCosts_1 rfl ?_
  refine mg_lve (lv' := [(0, _), (1, _)]) rfl ?_
  exact lpi (n + 1) 0 a (by omega) (by omega) (fun _ _ => rfl) (fun x y hx hy hxy => absurd hxy (by omega))
set_option maxHeartbeats 400000 in
set_option maxRecDepth 100000 in
theorem mx_X5_isUsed (E : En) (ad : Nat → Nat) (g : Nat → Int32) (a : Nat → Nat → Int32) (v : Nat → Int64) (tl : va_W) (q i U : Nat) (f : Nat → Nat) (hq : q < 2 ^ 31) (hi8 : i ≤ 8) (h6 : ∀ j, j < i → f j < 8 ∧ a 6 j = nI (f j)) (hU : U.testBit q = true ↔ ∃ j, j < i ∧ f j = q) : Ct E mX5_isUsed 0 0 0 [.ref (ad 17), .int (nI q), .int (nI i)] (mw E ad g a v tl) (fun o w => o = some (.int (if U.testBit q = true then 1 else 0)) ∧ w = mw E ad g a v tl) := by
  refine Ct.of (by decide) (Nat.le_of_ble_eq_true rfl) (fun X C hQ hin => ?_)
  have C : Cx E X cX5_isUsed 4 RX5 (some .boolean) 0 0 0 0 := C
  have loop : ∀ (m1 k : Nat), i < k + m1 → k ≤ i → (∀ j, j < k → ¬ f j = q) → GG E X (mw E ad g a v tl) 0 0 2 [(0, .ref (ad 17)), (1, .int (nI q)), (2, .int (nI i)), (3, .int (nI k))] [] := by
    intro m1
    induction m1 with
    | zero => intro k hm hi; omega
    | succ m1 ih =>
      intro k hm hi hno
      refine mg_iload_n C dX5_isUsed_2 rfl ?_
      refine mg_iload_n C dX5_isUsed_3 rfl ?_
      refine mg_icmp_ge C 25 dX5_isUsed_4 (by decide) (fun h4 => ?_) (fun h4 => ?_)
      · have hge : k = i := (by rcases Nat.lt_or_ge k i with h | h; exact absurd (h4) (nI_ge h (by omega)); omega)
        subst hge
        have ebt : ¬ U.testBit q = true := (fun hb => by obtain ⟨j, h1, h2⟩ := hU.mp hb; exact hno j h1 h2)
        refine mg_iconst (v := 0) C dX5_isUsed_25 (by decide) ?_
        exact mg_zret C hQ (rfl) dX5_isUsed_26 (⟨by rw [if_neg ebt], rfl⟩)
      · have hlt : k < i := (by rcases Nat.lt_or_ge k i with h | h; exact h; exact absurd (nI_le h (by omega)) h4)
        have hin8 : vp_in (nI k) 8 := vp_in_nI (by omega) (by decide)
        have hfk := h6 k hlt
        refine mg_aload_n C dX5_isUsed_7 rfl ?_
        refine mg_get C inG_X5 fX5_50 (ci := 5) rfl rfl 17 rfl rfl dX5_isUsed_8 ?_
        refine mg_iload_n C dX5_isUsed_11 rfl ?_
        refine mg_iald C 7 rfl (hin8) dX5_isUsed_12 ?_
        refine mg_tos (w := .int (nI (f k))) (by rw [nI_clamp (by omega), hfk.2]) ?_
        refine mg_iload_n C dX5_isUsed_13 rfl ?_
        refine mg_icmp_ne C 19 dX5_isUsed_14 (by decide) (fun h14 => ?_) (fun h14 => ?_)
        · refine mg_iinc C dX5_isUsed_19 rfl rfl ?_
          refine mg_lve (lv' := [(0, _), (1, _), (2, _), (3, _)]) rfl ?_
          refine mg_goto C 2 dX5_isUsed_22 (by decide) ?_
          rw [show nI k + Int32.ofInt 1 = nI (k + 1) from (nI_succ k).symm]
          refine ih (k + 1) (by omega) (by omega) (fun j hj hjq => ?_)
          by_cases e : j = k
          · rw [e] at hjq; exact h14 (by rw [hjq])
          · exact hno j (by omega) hjq
        · have ebt : U.testBit q = true := hU.mpr ⟨k, hlt, (nI_eq (by omega) (by omega)).mp h14⟩
          refine mg_iconst (v := 1) C dX5_isUsed_17 (by decide) ?_
          exact mg_zret C hQ (rfl) dX5_isUsed_18 (⟨by rw [if_pos ebt], rfl⟩)
  refine mg_iconst (v := 0) C dX5_isUsed_0 (by decide) ?_
  refine mg_istore_n C dX5_isUsed_1 rfl ?_
  refine mg_lve (lv' := [(0, _), (1, _), (2, _), (3, _)]) rfl ?_
  exact loop (i + 1) 0 (by omega) (by omega) (fun j hj => absurd hj (Nat.not_lt_zero j))
/-- least and best, as the reference holds them -/
def Rep (n : Nat) (L : Option (Nat × (Nat → Nat))) (y : Int32) (a : Nat → Nat → Int32) : Prop := match L with
  | none => y = -1
  | some z => y = nI z.1 ∧ z.1 ≤ 4000 ∧ ∀ j, j < n → z.2 j < 8 ∧ a 8 j = nI (z.2 j)
theorem Rep.mv {n : Nat} {L : Option (Nat × (Nat → Nat))} {y : Int32} {a a1 : Nat → Nat → Int32} (h : Rep n L y a) (h8 : a1 8 = a 8) : Rep n L y a1 := by
  cases L with
  | none => exact h
  | some z => exact ⟨h.1, h.2.1, fun j hj => by rw [h8]; exact h.2.2 j hj⟩
theorem Rep.no {n : Nat} {L : Option (Nat × (Nat → Nat))} {y : Int32} {a : Nat → Nat → Int32} (h : Rep n L y a) (hy : y = -1) : L = none := by
  cases L with
  | none => rfl
  | some z =>
    exfalso
    have e := h.1.symm.trans hy
    have e2 := congrArg Int32.toInt e
    rw [nI_toInt (by have := h.2.1; omega)] at e2
    have e3 : (-1 : Int32).toInt = -1 := rfl
    omega
theorem Rep.so {n : Nat} {L : Option (Nat × (Nat → Nat))} {y : Int32} {a : Nat → Nat → Int32} (h : Rep n L y a) (hy : ¬ y = -1) : ∃ z, L = some z ∧ y = nI z.1 ∧ z.1 ≤ 4000 := by
  cases L with
  | none => exact absurd h hy
  | some z => exact ⟨z, rfl, h.1, h.2.1⟩
theorem upB_new {L : Option (Nat × (Nat → Nat))} {c : Nat} {f : Nat → Nat} (h : ∀ z, L = some z → c < z.1) : upB L c f = some (c, f) := by
  cases L with
  | none => rfl
  | some z => exact if_pos (h z rfl)
theorem ful_0 {cs : Nat → Nat → Nat} {R k i U p : Nat} {f : Nat → Nat} {L : Option (Nat × (Nat → Nat))} (h : k = 0) : ful cs R k i U f p L = upB L p f := by
  subst h; rfl
theorem ful_s {cs : Nat → Nat → Nat} {R n i U p : Nat} {f : Nat → Nat} {L : Option (Nat × (Nat → Nat))} (h : i < n) : ful cs R (n - i) i U f p L = fol U (fun r L' => ful cs R (n - (i + 1)) (i + 1) (U ||| 1 <<< r) (un f i r) (p + cs i r) L') L R := by
  rw [show n - i = (n - (i + 1)) + 1 by omega, ful]
theorem fol_u {U : Nat} {nx : Nat → Option (Nat × (Nat → Nat)) → Option (Nat × (Nat → Nat))} {L : Option (Nat × (Nat → Nat))} {q : Nat} (h : U.testBit q = true) : fol U nx L (q + 1) = fol U nx L q := if_pos h
theorem fol_n {U : Nat} {nx : Nat → Option (Nat × (Nat → Nat)) → Option (Nat × (Nat → Nat))} {L : Option (Nat × (Nat → Nat))} {q : Nat} (h : ¬ U.testBit q = true) : fol U nx L (q + 1) = nx q (fol U nx L q) := if_neg h
set_option maxHeartbeats 2000000 in
set_option maxRecDepth 100000 in
theorem mm_all (E : En) (ad : Nat → Nat) (g : Nat → Int32) (a : Nat → Nat → Int32) (v : Nat → Int64) (tl : va_W) (X : Fx) (C : Cx E X cX5_map 4 RX5 (some .int) 2 80 0 0) (R n : Nat) (d0 : g 0 = nI R) (d0b : R ≤ 8) (d4 : g 4 = nI n) (hn1 : 1 ≤ n) (hnR : n ≤ R) (cs : Nat → Nat → Nat) (hcs : ∀ x y, cs x y ≤ 400) (h7 : ∀ x y, x < n → y < R → a 7 (x * 8 + y) = nI (cs x y)) (Z : Option Value → va_W → Prop) (hQ : Rt E X Z 0 0) (hZ : ∀ a1 : Nat → Nat → Int32, (∀ j, j ≠ 5 → j ≠ 6 → j ≠ 8 → j ≠ 11 → a1 j = a j) → (∀ q, q < 8 → ∃ r, r < 8 ∧ a1 8 q = nI r) → (∀ j, j < n → pth cs R n 0 0 (fun _ => 0) j < 8 ∧ a1 5 j = nI (pth cs R n 0 0 (fun _ => 0) j)) → (∀ j, n ≤ j → a1 5 j = a 5 j) → a1 11 0 = 0 → Z (some (.int (nI (opt cs R n 0 0)))) (mw E ad g a1 v tl)) : ∀ (a1 : Nat → Nat → Int32), (∀ j, j ≠ 6 → j ≠ 8 → j ≠ 11 → a1 j = a j) → (∀ q, q < 8 → ∃ r, r < 8 ∧ a1 8 q = nI r) → a1 6 0 = -1 → a1 11 0 = 0 → GG E X (mw E ad g a1 v tl) 0 0 25 [(0, .ref (ad 17)), (1, .int (-1)), (2, .int (nI 0))] [] := by
  have fin : ∀ (m1 k : Nat) (a1 : Nat → Nat → Int32), n < k + m1 → k ≤ n → (∀ j, j ≠ 5 → j ≠ 6 → j ≠ 8 → j ≠ 11 → a1 j = a j) → (∀ j, j < k → a1 5 j = nI (pth cs R n 0 0 (fun _ => 0) j)) → (∀ j, k ≤ j → a1 5 j = a 5 j) → (∀ q, q < 8 → ∃ r, r < 8 ∧ a1 8 q = nI r) → (∀ j, j < n → pth cs R n 0 0 (fun _ => 0) j < 8 ∧ a1 8 j = nI (pth cs R n 0 0 (fun _ => 0) j)) → a1 11 0 = 0 → GG E X (mw E ad g a1 v tl) 0 0 211 [(0, .ref (ad 17)), (1, .int (nI (opt cs R n 0 0))), (2, .int (nI 0 + Int32.ofInt (-1))), (3, .int (nI k))] [] := by
    intro m1
    induction m1 with
    | zero => intro k a1 hm hi; omega
    | succ m1 ih =>
      intro k a1 hm hi ho h5a h5b hb hf hz0
      refine mg_iload_n C dX5_map_211 rfl ?_
      refine mg_aload_n C dX5_map_212 rfl ?_
      refine mg_get C inG_X5 fX5_82 (ci := 5) rfl rfl 17 rfl rfl dX5_map_213 ?_
      refine mg_icmp_ge C 237 dX5_map_216 (by decide) (fun h216 => ?_) (fun h216 => ?_)
      · have hge : k = n := (by rcases Nat.lt_or_ge k n with h | h; exact absurd (by rw [d4] at h216; exact h216) (nI_ge h (by omega)); omega)
        subst hge
        refine mg_iload_n C dX5_map_237 rfl ?_
        exact mg_iret C hQ dX5_map_238 (hZ a1 ho hb (fun j hj => ⟨(hf j hj).1, h5a j hj⟩) h5b hz0)
      · have hlt : k < n := (by rcases Nat.lt_or_ge k n with h | h; exact h; exact absurd (by rw [d4]; exact nI_le h (by omega)) h216)
        have hin8 : vp_in (nI k) 8 := vp_in_nI (by omega) (by decide)
        refine mg_aload_n C dX5_map_219 rfl ?_
        refine mg_get C inG_X5 fX5_38 (ci := 5) rfl rfl 17 rfl rfl dX5_map_220 ?_
        refine mg_iload_n C dX5_map_223 rfl ?_
        refine mg_aload_n C dX5_map_224 rfl ?_
        refine mg_get C inG_X5 fX5_53 (ci := 5) rfl rfl 17 rfl rfl dX5_map_225 ?_
        refine mg_iload_n C dX5_map_228 rfl ?_
        refine mg_iald C 6 rfl (hin8) dX5_map_229 ?_
        refine mg_tos (w := .int (nI (pth cs R n 0 0 (fun _ => 0) k))) (by rw [nI_clamp (by omega), (hf k hlt).2]) ?_
        refine mg_iast C 11 rfl (hin8) dX5_map_230 (ws' := (mw E ad g (ups a1 5 ((nI k) : Int32).toNatClampNeg (nI (pth cs R n 0 0 (fun _ => 0) k))) v tl)) rfl ?_
        refine mg_iinc C dX5_map_231 rfl rfl ?_
        refine mg_lve (lv' := [(0, _), (1, _), (2, _), (3, _)]) rfl ?_
        refine mg_goto C 211 dX5_map_234 (by decide) ?_
        rw [show nI k + Int32.ofInt 1 = nI (k + 1) from (nI_succ k).symm]
        refine ih (k + 1) _ (by omega) (by omega) (fun j h5 h6 h8 h11 => (ups_n h5).trans (ho j h5 h6 h8 h11)) (fun j hj => ?_) (fun j hj => ?_) hb hf hz0
        · show upd (a1 5) _ _ j = _
          rw [nI_clamp (by omega)]
          by_cases e : j = k
          · rw [e, pk_us]
          · rw [pk_un e]; exact h5a j (by omega)
        · show upd (a1 5) _ _ j = _
          rw [nI_clamp (by omega), pk_un (by omega)]; exact h5b j (by omega)
  have ext : ∀ (y : Int32) (a1 : Nat → Nat → Int32), (∀ j, j ≠ 6 → j ≠ 8 → j ≠ 11 → a1 j = a j) → (∀ q, q < 8 → ∃ r, r < 8 ∧ a1 8 q = nI r) → Rep n (ful cs R n 0 0 (fun _ => 0) 0 none) y a1 → a1 11 0 = 0 → GG E X (mw E ad g a1 v tl) 0 0 25 [(0, .ref (ad 17)), (1, .int y), (2, .int (nI 0 + Int32.ofInt (-1)))] [] := by
    intro y a1 ho hb hr hz0
    rw [ful_eq n 0 0 (fun _ => 0) 0 none (by rw [fre_0]; exact hnR), Nat.zero_add] at hr
    have hy : y = nI (opt cs R n 0 0) := hr.1
    subst hy
    refine mg_iload_n C dX5_map_25 rfl ?_
    refine mg_if_lt C 209 dX5_map_26 (by decide) (fun h26 => ?_) (fun h26 => absurd h26 (fun hh => hh (by decide)))
    refine mg_iconst (v := 0) C dX5_map_209 (by decide) ?_
    refine mg_istore_n C dX5_map_210 rfl ?_
    refine mg_lve (lv' := [(0, _), (1, _), (2, _), (3, _)]) rfl ?_
    exact fin (n + 1) 0 a1 (by omega) (by omega) (fun j h5 h6 h8 h11 => ho j h6 h8 h11) (fun j hj => absurd hj (Nat.not_lt_zero j)) (fun j _ => by rw [ho 5 (by decide) (by decide) (by decide)]) hb hr.2.2 hz0
  have cpy : ∀ (i : Nat) (y : Int32) (f : Nat → Nat) (F6 F11 : Nat → Int32), (∀ j, j < n → f j < 8 ∧ F6 j = nI (f j)) → (∀ (a1 : Nat → Nat → Int32), (∀ j, j ≠ 6 → j ≠ 8 → j ≠ 11 → a1 j = a j) → (∀ q, q < 8 → ∃ r, r < 8 ∧ a1 8 q = nI r) → a1 6 = F6 → a1 11 = F11 → (∀ j, j < n → f j < 8 ∧ a1 8 j = nI (f j)) → GG E X (mw E ad g a1 v tl) 0 0 25 [(0, .ref (ad 17)), (1, .int y), (2, .int (nI i))] []) → ∀ (m1 k : Nat) (a1 : Nat → Nat → Int32), n < k + m1 → k ≤ n → (∀ j, j ≠ 6 → j ≠ 8 → j ≠ 11 → a1 j = a j) → (∀ q, q < 8 → ∃ r, r < 8 ∧ a1 8 q = nI r) → a1 6 = F6 → a1 11 = F11 → (∀ j, j < k → a1 8 j = nI (f j)) → GG E X (mw E ad g a1 v tl) 0 0 167 [(0, .ref (ad 17)), (1, .int y), (2, .int (nI i)), (3, .int (nI k))] [] := by
    intro i y f F6 F11 hN out
    intro m1
    induction m1 with
    | zero => intro k a1 hm hi; omega
    | succ m1 ih =>
      intro k a1 hm hi ho hb h6 h11' h8f
      refine mg_iload_n C dX5_map_167 rfl ?_
      refine mg_aload_n C dX5_map_168 rfl ?_
      refine mg_get C inG_X5 fX5_82 (ci := 5) rfl rfl 17 rfl rfl dX5_map_169 ?_
      refine mg_icmp_ge C 193 dX5_map_172 (by decide) (fun h172 => ?_) (fun h172 => ?_)
      · refine mg_goto C 25 dX5_map_193 (by decide) ?_
        have hge : k = n := (by rcases Nat.lt_or_ge k n with h | h; exact absurd (by rw [d4] at h172; exact h172) (nI_ge h (by omega)); omega)
        refine mg_lv (lv' := [(0, _), (1, _), (2, _)]) (lv_tk 3 rfl) ?_
        exact out a1 ho hb h6 h11' (fun j hj => ⟨(hN j hj).1, h8f j (by omega)⟩)
      · have hlt : k < n := (by rcases Nat.lt_or_ge k n with h | h; exact h; exact absurd (by rw [d4]; exact nI_le h (by omega)) h172)
        have hin8 : vp_in (nI k) 8 := vp_in_nI (by omega) (by decide)
        refine mg_aload_n C dX5_map_175 rfl ?_
        refine mg_get C inG_X5 fX5_53 (ci := 5) rfl rfl 17 rfl rfl dX5_map_176 ?_
        refine mg_iload_n C dX5_map_179 rfl ?_
        refine mg_aload_n C dX5_map_180 rfl ?_
        refine mg_get C inG_X5 fX5_50 (ci := 5) rfl rfl 17 rfl rfl dX5_map_181 ?_
        refine mg_iload_n C dX5_map_184 rfl ?_
        refine mg_iald C 7 rfl (hin8) dX5_map_185 ?_
        refine mg_tos (w := .int (nI (f k))) (by rw [nI_clamp (by omega), h6, (hN k hlt).2]) ?_
        refine mg_iast C 6 rfl (hin8) dX5_map_186 (ws' := (mw E ad g (ups a1 8 ((nI k) : Int32).toNatClampNeg (nI (f k))) v tl)) rfl ?_
        refine mg_iinc C dX5_map_187 rfl rfl ?_
        refine mg_lve (lv' := [(0, _), (1, _), (2, _), (3, _)]) rfl ?_
        refine mg_goto C 167 dX5_map_190 (by decide) ?_
        rw [show nI k + Int32.ofInt 1 = nI (k + 1) from (nI_succ k).symm]
        refine ih (k + 1) _ (by omega) (by omega) (fun j h6' h8 h11 => (ups_n h8).trans (ho j h6' h8 h11)) (fun q hq => ?_) h6 h11' (fun j hj => ?_)
        · show ∃ r, r < 8 ∧ upd (a1 8) _ _ q = nI r
          rw [nI_clamp (by omega)]
          by_cases e : q = k
          · rw [e, pk_us]; exact ⟨f k, (hN k hlt).1, rfl⟩
          · rw [pk_un e]; exact hb q hq
        · show upd (a1 8) _ _ j = _
          rw [nI_clamp (by omega)]
          by_cases e : j = k
          · rw [e, pk_us]
          · rw [pk_un e]; exact h8f j (by omega)
  have nxt : ∀ (i U p : Nat) (f : Nat → Nat) (e : Nat → Int32) (L0 : Option (Nat × (Nat → Nat))), i < n → (∀ r, r < R → (U.testBit r = true ↔ ∃ j, j < i ∧ f j = r)) → e i = nI p → p ≤ 400 * i → ∀ (y : Int32) (q0 : Nat), (∀ (q : Nat) (a1 : Nat → Nat → Int32), q0 ≤ q → q ≤ R → (q < R → ¬ U.testBit q = true) → (∀ j, j < i → f j < 8 ∧ a1 6 j = nI (f j)) → (∀ j, j ≤ i → a1 11 j = e j) → (∀ j, j ≠ 6 → j ≠ 8 → j ≠ 11 → a1 j = a j) → (∀ q, q < 8 → ∃ r, r < 8 ∧ a1 8 q = nI r) → a1 6 i = nI q → Rep n (fol U (fun r L1 => ful cs R (n - (i + 1)) (i + 1) (U ||| 1 <<< r) (un f i r) (p + cs i r) L1) L0 q) y a1 → GG E X (mw E ad g a1 v tl) 0 0 79 [(0, .ref (ad 17)), (1, .int y), (2, .int (nI i))] []) → ∀ (m1 q : Nat) (a1 : Nat → Nat → Int32), R < q + m1 → q ≤ R → q0 ≤ q → (∀ j, j < i → f j < 8 ∧ a1 6 j = nI (f j)) → (∀ j, j ≤ i → a1 11 j = e j) → (∀ j, j ≠ 6 → j ≠ 8 → j ≠ 11 → a1 j = a j) → (∀ q, q < 8 → ∃ r, r < 8 ∧ a1 8 q = nI r) → a1 6 i = nI q → Rep n (fol U (fun r L1 => ful cs R (n - (i + 1)) (i + 1) (U ||| 1 <<< r) (un f i r) (p + cs i r) L1) L0 q) y a1 → GG E X (mw E ad g a1 v tl) 0 0 39 [(0, .ref (ad 17)), (1, .int y), (2, .int (nI i))] [] := by
    intro i U p f e L0 hiN hU hep hp400 y q0 out
    have hin8 : vp_in (nI i) 8 := vp_in_nI (by omega) (by decide)
    intro m1
    induction m1 with
    | zero => intro q a1 hm hi; omega
    | succ m1 ih =>
      intro q a1 hm hi hq0 hp hp11 ho hb h6 hr
      refine mg_aload_n C dX5_map_39 rfl ?_
      refine mg_get C inG_X5 fX5_50 (ci := 5) rfl rfl 17 rfl rfl dX5_map_40 ?_
      refine mg_iload_n C dX5_map_43 rfl ?_
      refine mg_iald C 7 rfl (hin8) dX5_map_44 ?_
      refine mg_tos (w := .int (nI q)) (by rw [nI_clamp (by omega), h6]) ?_
      refine mg_aload_n C dX5_map_45 rfl ?_
      refine mg_get C inG_X5 fX5_7 (ci := 5) rfl rfl 17 rfl rfl dX5_map_46 ?_
      refine mg_icmp_ge C 79 dX5_map_49 (by decide) (fun h49 => ?_) (fun h49 => ?_)
      · have hge : q = R := (by rcases Nat.lt_or_ge q R with h | h; exact absurd (by rw [d0] at h49; exact h49) (nI_ge h (by omega)); omega)
        exact out q a1 hq0 hi (fun h => absurd h (by omega)) hp hp11 ho hb h6 hr
      · have hlt : q < R := (by rcases Nat.lt_or_ge q R with h | h; exact h; exact absurd (by rw [d0]; exact nI_le h (by omega)) h49)
        refine mg_aload_n C dX5_map_52 rfl ?_
        refine mg_aload_n C dX5_map_53 rfl ?_
        refine mg_get C inG_X5 fX5_50 (ci := 5) rfl rfl 17 rfl rfl dX5_map_54 ?_
        refine mg_iload_n C dX5_map_57 rfl ?_
        refine mg_iald C 7 rfl (hin8) dX5_map_58 ?_
        refine mg_tos (w := .int (nI q)) (by rw [nI_clamp (by omega), h6]) ?_
        refine mg_iload_n C dX5_map_59 rfl ?_
        refine mg_callV C (mx_X5_isUsed E _ _ _ _ _ q i U f (by omega) (by omega) hp (hU q hlt)) oX5_141 17 rfl rfl rfl rfl rfl dX5_map_60 (fun o60 w60 z60 => ?_)
        obtain ⟨rfl, rfl⟩ := z60
        refine mg_v ?_
        refine mg_if_eq C 79 dX5_map_63 (by decide) (fun h63 => ?_) (fun h63 => ?_)
        · have hbt : ¬ U.testBit q = true := (by intro hb2; rw [if_pos hb2] at h63; exact absurd h63 (by decide))
          exact out q a1 hq0 hi (fun _ => hbt) hp hp11 ho hb h6 hr
        · refine mg_aload_n C dX5_map_66 rfl ?_
          refine mg_get C inG_X5 fX5_50 (ci := 5) rfl rfl 17 rfl rfl dX5_map_67 ?_
          refine mg_iload_n C dX5_map_70 rfl ?_
          refine mg_dup2_11 C dX5_map_71 rfl rfl ?_
          refine mg_iald C 7 rfl (hin8) dX5_map_72 ?_
          refine mg_tos (w := .int (nI q)) (by rw [nI_clamp (by omega), h6]) ?_
          refine mg_iconst (v := 1) C dX5_map_73 (by decide) ?_
          refine mg_iadd C dX5_map_74 ?_
          refine mg_tos (w := .int (nI (q + 1))) (by rw [nI_1]) ?_
          refine mg_iast C 7 rfl (hin8) dX5_map_75 (ws' := (mw E ad g (ups a1 6 ((nI i) : Int32).toNatClampNeg (nI (q + 1))) v tl)) rfl ?_
          refine mg_goto C 39 dX5_map_76 (by decide) ?_
          have hbt : U.testBit q = true := (by by_cases hb2 : U.testBit q = true; exact hb2; rw [if_neg hb2] at h63; exact absurd rfl h63)
          refine ih (q + 1) _ (by omega) (by omega) (by omega) (fun j hj => ?_) (fun j hj => hp11 j hj) (fun j h6' h8 h11 => (ups_n h6').trans (ho j h6' h8 h11)) hb ?_ (by rw [fol_u hbt]; exact hr.mv rfl)
          · show f j < 8 ∧ upd (a1 6) _ _ j = _
            rw [nI_clamp (by omega), pk_un (by omega)]; exact hp j hj
          · show upd (a1 6) _ _ i = _
            rw [nI_clamp (by omega)]; exact pk_us
  have turn : ∀ (i U p : Nat) (f : Nat → Nat) (e : Nat → Int32) (L0 : Option (Nat × (Nat → Nat))), i < n → (∀ r, r < R → (U.testBit r = true ↔ ∃ j, j < i ∧ f j = r)) → e i = nI p → p ≤ 400 * i → (∀ (y : Int32) (a1 : Nat → Nat → Int32), (∀ j, j < i → f j < 8 ∧ a1 6 j = nI (f j)) → (∀ j, j ≤ i → a1 11 j = e j) → (∀ j, j ≠ 6 → j ≠ 8 → j ≠ 11 → a1 j = a j) → (∀ q, q < 8 → ∃ r, r < 8 ∧ a1 8 q = nI r) → Rep n (fol U (fun r L1 => ful cs R (n - (i + 1)) (i + 1) (U ||| 1 <<< r) (un f i r) (p + cs i r) L1) L0 R) y a1 → GG E X (mw E ad g a1 v tl) 0 0 25 [(0, .ref (ad 17)), (1, .int y), (2, .int (nI i + Int32.ofInt (-1)))] []) → (i + 1 < n → ∀ (q1 : Nat) (L1 : Option (Nat × (Nat → Nat))) (y : Int32) (a1 : Nat → Nat → Int32), q1 < R → ¬ U.testBit q1 = true → (∀ j, j < i + 1 → un f i q1 j < 8 ∧ a1 6 j = nI (un f i q1 j)) → a1 11 (i + 1) = nI (p + cs i q1) → (∀ j, j ≠ 6 → j ≠ 8 → j ≠ 11 → a1 j = a j) → (∀ q, q < 8 → ∃ r, r < 8 ∧ a1 8 q = nI r) → a1 6 (i + 1) = -1 → Rep n L1 y a1 → (∀ (y : Int32) (a2 : Nat → Nat → Int32), (∀ j, j < i + 1 → un f i q1 j < 8 ∧ a2 6 j = nI (un f i q1 j)) → (∀ j, j ≤ i + 1 → a2 11 j = a1 11 j) → (∀ j, j ≠ 6 → j ≠ 8 → j ≠ 11 → a2 j = a j) → (∀ q, q < 8 → ∃ r, r < 8 ∧ a2 8 q = nI r) → Rep n ((fun r L1 => ful cs R (n - (i + 1)) (i + 1) (U ||| 1 <<< r) (un f i r) (p + cs i r) L1) q1 L1) y a2 → GG E X (mw E ad g a2 v tl) 0 0 25 [(0, .ref (ad 17)), (1, .int y), (2, .int (nI (i + 1) + Int32.ofInt (-1)))] []) → GG E X (mw E ad g a1 v tl) 0 0 25 [(0, .ref (ad 17)), (1, .int y), (2, .int (nI (i + 1)))] []) → ∀ (m1 q : Nat) (y : Int32) (a1 : Nat → Nat → Int32), R < q + m1 → q ≤ R → (∀ j, j < i → f j < 8 ∧ a1 6 j = nI (f j)) → (∀ j, j ≤ i → a1 11 j = e j) → (∀ j, j ≠ 6 → j ≠ 8 → j ≠ 11 → a1 j = a j) → (∀ q, q < 8 → ∃ r, r < 8 ∧ a1 8 q = nI r) → a1 6 i = nI q - 1 → Rep n (fol U (fun r L1 => ful cs R (n - (i + 1)) (i + 1) (U ||| 1 <<< r) (un f i r) (p + cs i r) L1) L0 q) y a1 → GG E X (mw E ad g a1 v tl) 0 0 25 [(0, .ref (ad 17)), (1, .int y), (2, .int (nI i))] [] := by
    intro i U p f e L0 hiN hU hep hp400 out desc
    have hin8 : vp_in (nI i) 8 := vp_in_nI (by omega) (by decide)
    intro m1
    induction m1 with
    | zero => intro q y a1 hm hi; omega
    | succ m1 ih =>
      intro q y a1 hm hi hp hp11 ho hb h6 hr
      refine mg_iload_n C dX5_map_25 rfl ?_
      refine mg_if_lt C 209 dX5_map_26 (by decide) (fun h26 => absurd h26 (nI_pos (by omega))) (fun h26 => ?_)
      refine mg_aload_n C dX5_map_29 rfl ?_
      refine mg_get C inG_X5 fX5_50 (ci := 5) rfl rfl 17 rfl rfl dX5_map_30 ?_
      refine mg_iload_n C dX5_map_33 rfl ?_
      refine mg_dup2_11 C dX5_map_34 rfl rfl ?_
      refine mg_iald C 7 rfl (hin8) dX5_map_35 ?_
      refine mg_tos (w := .int (nI q - 1)) (by rw [nI_clamp (by omega), h6]) ?_
      refine mg_iconst (v := 1) C dX5_map_36 (by decide) ?_
      refine mg_iadd C dX5_map_37 ?_
      refine mg_tos (w := .int (nI q)) (by rw [show nI q - 1 + 1 = nI q from Int32.sub_add_cancel _ _]) ?_
      refine mg_iast C 7 rfl (hin8) dX5_map_38 (ws' := (mw E ad g (ups a1 6 ((nI i) : Int32).toNatClampNeg (nI q)) v tl)) rfl ?_
      refine nxt i U p f e L0 hiN hU hep hp400 y q (fun q1 a2 hq1 hq1R hfree hp2 hp211 ho2 hb2 h62 hr2 => ?_) (R + 1) q _ (by omega) hi (Nat.le_refl _) (fun j hj => ?_) (fun j hj => hp11 j hj) (fun j h6' h8 h11 => (ups_n h6').trans (ho j h6' h8 h11)) hb ?_ (hr.mv rfl)
      · refine mg_aload_n C dX5_map_79 rfl ?_
        refine mg_get C inG_X5 fX5_50 (ci := 5) rfl rfl 17 rfl rfl dX5_map_80 ?_
        refine mg_iload_n C dX5_map_83 rfl ?_
        refine mg_iald C 7 rfl (hin8) dX5_map_84 ?_
        refine mg_tos (w := .int (nI q1)) (by rw [nI_clamp (by omega), h62]) ?_
        refine mg_aload_n C dX5_map_85 rfl ?_
        refine mg_get C inG_X5 fX5_7 (ci := 5) rfl rfl 17 rfl rfl dX5_map_86 ?_
        refine mg_icmp_lt C 98 dX5_map_89 (by decide) (fun h89 => ?_) (fun h89 => ?_)
        · have hq1l : q1 < R := (by rw [d0] at h89; exact (nI_ltI (by omega) (by omega)).mp h89)
          have hbt := hfree hq1l
          have hc4 := hcs i q1
          have hin9 : vp_in (nI (i + 1)) 9 := vp_in_nI (by omega) (by decide)
          have hin64 : vp_in (nI (i * 8 + q1)) 64 := vp_in_nI (by omega) (by decide)
          refine mg_aload_n C dX5_map_98 rfl ?_
          refine mg_get C inG_X5 fX5_56 (ci := 5) rfl rfl 17 rfl rfl dX5_map_99 ?_
          refine mg_iload_n C dX5_map_102 rfl ?_
          refine mg_iconst (v := 1) C dX5_map_103 (by decide) ?_
          refine mg_iadd C dX5_map_104 ?_
          refine mg_tos (w := .int (nI (i + 1))) (by rw [nI_1]) ?_
          refine mg_aload_n C dX5_map_105 rfl ?_
          refine mg_get C inG_X5 fX5_56 (ci := 5) rfl rfl 17 rfl rfl dX5_map_106 ?_
          refine mg_iload_n C dX5_map_109 rfl ?_
          refine mg_iald C 5 rfl ((vp_in_nI (by omega) (by decide))) dX5_map_110 ?_
          refine mg_tos (w := .int (nI p)) (by rw [nI_clamp (by omega), hp211 i (Nat.le_refl _), hep]) ?_
          refine mg_aload_n C dX5_map_111 rfl ?_
          refine mg_get C inG_X5 fX5_47 (ci := 5) rfl rfl 17 rfl rfl dX5_map_112 ?_
          refine mg_bipush (v := 8) C dX5_map_115 (by decide) ?_
          refine mg_iload_n C dX5_map_117 rfl ?_
          refine mg_imul C dX5_map_118 ?_
          refine mg_aload_n C dX5_map_119 rfl ?_
          refine mg_get C inG_X5 fX5_50 (ci := 5) rfl rfl 17 rfl rfl dX5_map_120 ?_
          refine mg_iload_n C dX5_map_123 rfl ?_
          refine mg_iald C 7 rfl (hin8) dX5_map_124 ?_
          refine mg_tos (w := .int (nI q1)) (by rw [nI_clamp (by omega), h62]) ?_
          refine mg_iadd C dX5_map_125 ?_
          refine mg_tos (w := .int (nI (i * 8 + q1))) (by rw [show (8 : Int32) = nI 8 from rfl, pk_mul, nI_add, Nat.mul_comm]) ?_
          refine mg_iald C 8 rfl (hin64) dX5_map_126 ?_
          refine mg_tos (w := .int (nI (cs i q1))) (by rw [nI_clamp (by omega), ho2 7 (by decide) (by decide) (by decide), h7 i q1 hiN hq1l]) ?_
          refine mg_iadd C dX5_map_127 ?_
          refine mg_tos (w := .int (nI (p + cs i q1))) (by rw [nI_add]) ?_
          refine mg_iast C 5 rfl (hin9) dX5_map_128 (ws' := (mw E ad g (ups a2 11 ((nI (i + 1)) : Int32).toNatClampNeg (nI (p + cs i q1))) v tl)) rfl ?_
          refine mg_iload_n C dX5_map_129 rfl ?_
          refine mg_iconst (v := (-1)) C dX5_map_130 (by decide) ?_
          refine mg_icmp_eq C 146 dX5_map_131 (by decide) (fun h131 => ?_) (fun h131 => ?_)
          · refine mg_iload_n C dX5_map_146 rfl ?_
            refine mg_aload_n C dX5_map_147 rfl ?_
            refine mg_get C inG_X5 fX5_82 (ci := 5) rfl rfl 17 rfl rfl dX5_map_148 ?_
            refine mg_iconst (v := 1) C dX5_map_151 (by decide) ?_
            refine mg_isub C dX5_map_152 ?_
            refine mg_icmp_ne C 196 dX5_map_153 (by decide) (fun h153 => ?_) (fun h153 => ?_)
            · have hNi : ∀ j, j < i + 1 → un f i q1 j < 8 ∧ a2 6 j = nI (un f i q1 j) := (fun j hj => (Nat.lt_or_ge j i).elim (fun h => by rw [un_n (by omega)]; exact hp2 j h) (fun h => by have e : j = i := (by omega); rw [e, un_s]; exact ⟨by omega, h62⟩))
              have hin1 : i + 1 < n := (by have e1 : g 4 - 1 = nI (n - 1) := (by rw [d4, show (1 : Int32) = nI 1 from rfl]; exact pk_sub (by omega)); rw [e1] at h153; have e2 : i ≠ n - 1 := (fun e => h153 (by rw [e])); omega)
              have hin88 : vp_in (nI (i + 1)) 8 := vp_in_nI (by omega) (by decide)
              have efol := fol_n (nx := (fun r L1 => ful cs R (n - (i + 1)) (i + 1) (U ||| 1 <<< r) (un f i r) (p + cs i r) L1)) (L := L0) hbt
              refine mg_iinc C dX5_map_196 rfl rfl ?_
              refine mg_lve (lv' := [(0, _), (1, _), (2, _)]) rfl ?_
              refine mg_lve (lv' := [(0, _), (1, _), (2, .int (nI (i + 1)))]) (by rw [nI_succ i]; rfl) ?_
              refine mg_aload_n C dX5_map_199 rfl ?_
              refine mg_get C inG_X5 fX5_50 (ci := 5) rfl rfl 17 rfl rfl dX5_map_200 ?_
              refine mg_iload_n C dX5_map_203 rfl ?_
              refine mg_iconst (v := (-1)) C dX5_map_204 (by decide) ?_
              refine mg_iast C 7 rfl (hin88) dX5_map_205 (ws' := (mw E ad g (ups (ups a2 11 (nI (i + 1)).toNatClampNeg (nI (p + cs i q1))) 6 _ (-1)) v tl)) rfl ?_
              refine mg_goto C 25 dX5_map_206 (by decide) ?_
              refine desc hin1 q1 (fol U (fun r L1 => ful cs R (n - (i + 1)) (i + 1) (U ||| 1 <<< r) (un f i r) (p + cs i r) L1) L0 q1) _ _ hq1l hbt (fun j hj => ?_) ?_ (fun j h6' h8 h11 => (ups_n h6').trans ((ups_n h11).trans (ho2 j h6' h8 h11))) hb2 ?_ (hr2.mv rfl) (fun y3 a3 hp3 hp311 ho3 hb3 hr3 => ?_)
              · show un f i q1 j < 8 ∧ upd (a2 6) _ _ j = _
                rw [nI_clamp (by omega), pk_un (by omega)]; exact hNi j hj
              · show upd (a2 11) _ _ (i + 1) = _
                rw [nI_clamp (by omega)]; exact pk_us
              · show upd (a2 6) _ _ (i + 1) = _
                rw [nI_clamp (by omega)]; exact pk_us
              · refine mg_lve (lv' := [(0, _), (1, _), (2, .int (nI i))]) (by rw [show nI (i + 1) + Int32.ofInt (-1) = nI i from pk_m1 i]) ?_
                exact ih (q1 + 1) _ _ (by omega) (by omega) (fun j hj => by have h9 := hp3 j (by omega); rw [un_n (by omega)] at h9; exact h9) (fun j hj => by rw [hp311 j (by omega)]; show upd (a2 11) _ _ j = _; rw [nI_clamp (by omega), pk_un (by omega)]; exact hp211 j hj) ho3 hb3 (by rw [nI_pred]; have h9 := hp3 i (by omega); rw [un_s] at h9; exact h9.2) (by rw [efol]; exact hr3)
            · refine mg_aload_n C dX5_map_156 rfl ?_
              refine mg_get C inG_X5 fX5_56 (ci := 5) rfl rfl 17 rfl rfl dX5_map_157 ?_
              refine mg_iload_n C dX5_map_160 rfl ?_
              refine mg_iconst (v := 1) C dX5_map_161 (by decide) ?_
              refine mg_iadd C dX5_map_162 ?_
              refine mg_tos (w := .int (nI (i + 1))) (by rw [nI_1]) ?_
              refine mg_iald C 5 rfl (hin9) dX5_map_163 ?_
              refine mg_tos (w := .int (nI (p + cs i q1))) (by show Value.int (upd (a2 11) _ _ _) = _; rw [pk_us]) ?_
              refine mg_istore_n C dX5_map_164 rfl ?_
              refine mg_lve (lv' := [(0, _), (1, _), (2, _)]) rfl ?_
              refine mg_iconst (v := 0) C dX5_map_165 (by decide) ?_
              refine mg_istore_n C dX5_map_166 rfl ?_
              refine mg_lve (lv' := [(0, _), (1, _), (2, _), (3, _)]) rfl ?_
              have hNi : ∀ j, j < i + 1 → un f i q1 j < 8 ∧ a2 6 j = nI (un f i q1 j) := (fun j hj => (Nat.lt_or_ge j i).elim (fun h => by rw [un_n (by omega)]; exact hp2 j h) (fun h => by have e : j = i := (by omega); rw [e, un_s]; exact ⟨by omega, h62⟩))
              have hin1 : i + 1 = n := (by have e1 : g 4 - 1 = nI (n - 1) := (by rw [d4, show (1 : Int32) = nI 1 from rfl]; exact pk_sub (by omega)); rw [e1] at h153; have e2 := (nI_eq (by omega) (by omega)).mp h153; omega)
              have hnew : ∀ z, fol U (fun r L1 => ful cs R (n - (i + 1)) (i + 1) (U ||| 1 <<< r) (un f i r) (p + cs i r) L1) L0 q1 = some z → p + cs i q1 < z.1 := (fun z hz => by rw [hr2.no h131] at hz; cases hz)
              have efol := fol_n (nx := (fun r L1 => ful cs R (n - (i + 1)) (i + 1) (U ||| 1 <<< r) (un f i r) (p + cs i r) L1)) (L := L0) hbt
              have eup : fol U (fun r L1 => ful cs R (n - (i + 1)) (i + 1) (U ||| 1 <<< r) (un f i r) (p + cs i r) L1) L0 (q1 + 1) = some (p + cs i q1, un f i q1) := (by rw [efol]; exact (ful_0 (by omega)).trans (upB_new hnew))
              exact cpy i _ (un f i q1) (a2 6) _ (fun j hj => hNi j (by omega)) (fun a3 ho3 hb3 h63 h311 h38 => ih (q1 + 1) _ _ (by omega) (by omega) (fun j hj => by rw [h63]; exact hp2 j hj) (fun j hj => by rw [h311]; show upd (a2 11) _ _ j = _; rw [nI_clamp (by omega), pk_un (by omega)]; exact hp211 j hj) ho3 hb3 (by rw [nI_pred, h63]; exact h62) (by rw [eup]; exact ⟨rfl, by omega, h38⟩)) (n + 1) 0 _ (by omega) (by omega) (fun j h6' h8 h11 => (ups_n h11).trans (ho2 j h6' h8 h11)) hb2 rfl rfl (fun j hj => absurd hj (Nat.not_lt_zero j))
          · refine mg_aload_n C dX5_map_134 rfl ?_
            refine mg_get C inG_X5 fX5_56 (ci := 5) rfl rfl 17 rfl rfl dX5_map_135 ?_
            refine mg_iload_n C dX5_map_138 rfl ?_
            refine mg_iconst (v := 1) C dX5_map_139 (by decide) ?_
            refine mg_iadd C dX5_map_140 ?_
            refine mg_tos (w := .int (nI (i + 1))) (by rw [nI_1]) ?_
            refine mg_iald C 5 rfl (hin9) dX5_map_141 ?_
            refine mg_tos (w := .int (nI (p + cs i q1))) (by show Value.int (upd (a2 11) _ _ _) = _; rw [pk_us]) ?_
            refine mg_iload_n C dX5_map_142 rfl ?_
            refine mg_icmp_ge C 25 dX5_map_143 (by decide) (fun h143 => ?_) (fun h143 => ?_)
            · have efol := fol_n (nx := (fun r L1 => ful cs R (n - (i + 1)) (i + 1) (U ||| 1 <<< r) (un f i r) (p + cs i r) L1)) (L := L0) hbt
              have epr : fol U (fun r L1 => ful cs R (n - (i + 1)) (i + 1) (U ||| 1 <<< r) (un f i r) (p + cs i r) L1) L0 (q1 + 1) = fol U (fun r L1 => ful cs R (n - (i + 1)) (i + 1) (U ||| 1 <<< r) (un f i r) (p + cs i r) L1) L0 q1 := (by obtain ⟨z1, e1, e2, e3⟩ := hr2.so h131; rw [efol, e1]; exact ful_prune _ _ _ _ _ z1 (by rw [e2] at h143; exact (nI_leI (by omega) (by omega)).mp h143))
              exact ih (q1 + 1) _ _ (by omega) (by omega) hp2 (fun j hj => by show upd (a2 11) _ _ j = _; rw [nI_clamp (by omega), pk_un (by omega)]; exact hp211 j hj) (fun j h6' h8 h11 => (ups_n h11).trans (ho2 j h6' h8 h11)) hb2 (by rw [nI_pred]; exact h62) (by rw [epr]; exact hr2.mv rfl)
            · refine mg_iload_n C dX5_map_146 rfl ?_
              refine mg_aload_n C dX5_map_147 rfl ?_
              refine mg_get C inG_X5 fX5_82 (ci := 5) rfl rfl 17 rfl rfl dX5_map_148 ?_
              refine mg_iconst (v := 1) C dX5_map_151 (by decide) ?_
              refine mg_isub C dX5_map_152 ?_
              refine mg_icmp_ne C 196 dX5_map_153 (by decide) (fun h153 => ?_) (fun h153 => ?_)
              · have hNi : ∀ j, j < i + 1 → un f i q1 j < 8 ∧ a2 6 j = nI (un f i q1 j) := (fun j hj => (Nat.lt_or_ge j i).elim (fun h => by rw [un_n (by omega)]; exact hp2 j h) (fun h => by have e : j = i := (by omega); rw [e, un_s]; exact ⟨by omega, h62⟩))
                have hin1 : i + 1 < n := (by have e1 : g 4 - 1 = nI (n - 1) := (by rw [d4, show (1 : Int32) = nI 1 from rfl]; exact pk_sub (by omega)); rw [e1] at h153; have e2 : i ≠ n - 1 := (fun e => h153 (by rw [e])); omega)
                have hin88 : vp_in (nI (i + 1)) 8 := vp_in_nI (by omega) (by decide)
                have efol := fol_n (nx := (fun r L1 => ful cs R (n - (i + 1)) (i + 1) (U ||| 1 <<< r) (un f i r) (p + cs i r) L1)) (L := L0) hbt
                refine mg_iinc C dX5_map_196 rfl rfl ?_
                refine mg_lve (lv' := [(0, _), (1, _), (2, _)]) rfl ?_
                refine mg_lve (lv' := [(0, _), (1, _), (2, .int (nI (i + 1)))]) (by rw [nI_succ i]; rfl) ?_
                refine mg_aload_n C dX5_map_199 rfl ?_
                refine mg_get C inG_X5 fX5_50 (ci := 5) rfl rfl 17 rfl rfl dX5_map_200 ?_
                refine mg_iload_n C dX5_map_203 rfl ?_
                refine mg_iconst (v := (-1)) C dX5_map_204 (by decide) ?_
                refine mg_iast C 7 rfl (hin88) dX5_map_205 (ws' := (mw E ad g (ups (ups a2 11 (nI (i + 1)).toNatClampNeg (nI (p + cs i q1))) 6 _ (-1)) v tl)) rfl ?_
                refine mg_goto C 25 dX5_map_206 (by decide) ?_
                refine desc hin1 q1 (fol U (fun r L1 => ful cs R (n - (i + 1)) (i + 1) (U ||| 1 <<< r) (un f i r) (p + cs i r) L1) L0 q1) _ _ hq1l hbt (fun j hj => ?_) ?_ (fun j h6' h8 h11 => (ups_n h6').trans ((ups_n h11).trans (ho2 j h6' h8 h11))) hb2 ?_ (hr2.mv rfl) (fun y3 a3 hp3 hp311 ho3 hb3 hr3 => ?_)
                · show un f i q1 j < 8 ∧ upd (a2 6) _ _ j = _
                  rw [nI_clamp (by omega), pk_un (by omega)]; exact hNi j hj
                · show upd (a2 11) _ _ (i + 1) = _
                  rw [nI_clamp (by omega)]; exact pk_us
                · show upd (a2 6) _ _ (i + 1) = _
                  rw [nI_clamp (by omega)]; exact pk_us
                · refine mg_lve (lv' := [(0, _), (1, _), (2, .int (nI i))]) (by rw [show nI (i + 1) + Int32.ofInt (-1) = nI i from pk_m1 i]) ?_
                  exact ih (q1 + 1) _ _ (by omega) (by omega) (fun j hj => by have h9 := hp3 j (by omega); rw [un_n (by omega)] at h9; exact h9) (fun j hj => by rw [hp311 j (by omega)]; show upd (a2 11) _ _ j = _; rw [nI_clamp (by omega), pk_un (by omega)]; exact hp211 j hj) ho3 hb3 (by rw [nI_pred]; have h9 := hp3 i (by omega); rw [un_s] at h9; exact h9.2) (by rw [efol]; exact hr3)
              · refine mg_aload_n C dX5_map_156 rfl ?_
                refine mg_get C inG_X5 fX5_56 (ci := 5) rfl rfl 17 rfl rfl dX5_map_157 ?_
                refine mg_iload_n C dX5_map_160 rfl ?_
                refine mg_iconst (v := 1) C dX5_map_161 (by decide) ?_
                refine mg_iadd C dX5_map_162 ?_
                refine mg_tos (w := .int (nI (i + 1))) (by rw [nI_1]) ?_
                refine mg_iald C 5 rfl (hin9) dX5_map_163 ?_
                refine mg_tos (w := .int (nI (p + cs i q1))) (by show Value.int (upd (a2 11) _ _ _) = _; rw [pk_us]) ?_
                refine mg_istore_n C dX5_map_164 rfl ?_
                refine mg_lve (lv' := [(0, _), (1, _), (2, _)]) rfl ?_
                refine mg_iconst (v := 0) C dX5_map_165 (by decide) ?_
                refine mg_istore_n C dX5_map_166 rfl ?_
                refine mg_lve (lv' := [(0, _), (1, _), (2, _), (3, _)]) rfl ?_
                have hNi : ∀ j, j < i + 1 → un f i q1 j < 8 ∧ a2 6 j = nI (un f i q1 j) := (fun j hj => (Nat.lt_or_ge j i).elim (fun h => by rw [un_n (by omega)]; exact hp2 j h) (fun h => by have e : j = i := (by omega); rw [e, un_s]; exact ⟨by omega, h62⟩))
                have hin1 : i + 1 = n := (by have e1 : g 4 - 1 = nI (n - 1) := (by rw [d4, show (1 : Int32) = nI 1 from rfl]; exact pk_sub (by omega)); rw [e1] at h153; have e2 := (nI_eq (by omega) (by omega)).mp h153; omega)
                have hnew : ∀ z, fol U (fun r L1 => ful cs R (n - (i + 1)) (i + 1) (U ||| 1 <<< r) (un f i r) (p + cs i r) L1) L0 q1 = some z → p + cs i q1 < z.1 := (fun z hz => by obtain ⟨z1, e1, e2, e3⟩ := hr2.so h131; rw [e1] at hz; rw [← Option.some.inj hz]; rcases Nat.lt_or_ge (p + cs i q1) z1.1 with h | h; exact h; exact absurd (by rw [e2]; exact nI_le h (by omega)) h143)
                have efol := fol_n (nx := (fun r L1 => ful cs R (n - (i + 1)) (i + 1) (U ||| 1 <<< r) (un f i r) (p + cs i r) L1)) (L := L0) hbt
                have eup : fol U (fun r L1 => ful cs R (n - (i + 1)) (i + 1) (U ||| 1 <<< r) (un f i r) (p + cs i r) L1) L0 (q1 + 1) = some (p + cs i q1, un f i q1) := (by rw [efol]; exact (ful_0 (by omega)).trans (upB_new hnew))
                exact cpy i _ (un f i q1) (a2 6) _ (fun j hj => hNi j (by omega)) (fun a3 ho3 hb3 h63 h311 h38 => ih (q1 + 1) _ _ (by omega) (by omega) (fun j hj => by rw [h63]; exact hp2 j hj) (fun j hj => by rw [h311]; show upd (a2 11) _ _ j = _; rw [nI_clamp (by omega), pk_un (by omega)]; exact hp211 j hj) ho3 hb3 (by rw [nI_pred, h63]; exact h62) (by rw [eup]; exact ⟨rfl, by omega, h38⟩)) (n + 1) 0 _ (by omega) (by omega) (fun j h6' h8 h11 => (ups_n h11).trans (ho2 j h6' h8 h11)) hb2 rfl rfl (fun j hj => absurd hj (Nat.not_lt_zero j))
        · refine mg_iinc C dX5_map_92 rfl rfl ?_
          refine mg_lve (lv' := [(0, _), (1, _), (2, _)]) rfl ?_
          refine mg_goto C 25 dX5_map_95 (by decide) ?_
          have hge : q1 = R := (by rcases Nat.lt_or_ge q1 R with h | h; exact absurd (by rw [d0]; exact nI_lt h (by omega)) h89; omega)
          rw [hge] at hr2
          exact out y a2 hp2 hp211 ho2 hb2 hr2
      · show f j < 8 ∧ upd (a1 6) _ _ j = _
        rw [nI_clamp (by omega), pk_un (by omega)]; exact hp j hj
      · show upd (a1 6) _ _ i = _
        rw [nI_clamp (by omega)]; exact pk_us
  have lvl : ∀ (dd : Nat), ∀ (i U p : Nat) (f : Nat → Nat) (e : Nat → Int32) (L0 : Option (Nat × (Nat → Nat))), i < n → (∀ r, r < R → (U.testBit r = true ↔ ∃ j, j < i ∧ f j = r)) → e i = nI p → p ≤ 400 * i → i + dd + 1 = n → (∀ (y : Int32) (a1 : Nat → Nat → Int32), (∀ j, j < i → f j < 8 ∧ a1 6 j = nI (f j)) → (∀ j, j ≤ i → a1 11 j = e j) → (∀ j, j ≠ 6 → j ≠ 8 → j ≠ 11 → a1 j = a j) → (∀ q, q < 8 → ∃ r, r < 8 ∧ a1 8 q = nI r) → Rep n (fol U (fun r L1 => ful cs R (n - (i + 1)) (i + 1) (U ||| 1 <<< r) (un f i r) (p + cs i r) L1) L0 R) y a1 → GG E X (mw E ad g a1 v tl) 0 0 25 [(0, .ref (ad 17)), (1, .int y), (2, .int (nI i + Int32.ofInt (-1)))] []) → ∀ (y : Int32) (a1 : Nat → Nat → Int32), (∀ j, j < i → f j < 8 ∧ a1 6 j = nI (f j)) → (∀ j, j ≤ i → a1 11 j = e j) → (∀ j, j ≠ 6 → j ≠ 8 → j ≠ 11 → a1 j = a j) → (∀ q, q < 8 → ∃ r, r < 8 ∧ a1 8 q = nI r) → a1 6 i = -1 → Rep n L0 y a1 → GG E X (mw E ad g a1 v tl) 0 0 25 [(0, .ref (ad 17)), (1, .int y), (2, .int (nI i))] [] := by
    intro dd
    induction dd with
    | zero =>
      intro i U p f e L0 hiN hU hep hp400 hid out y a1 hp hp11 ho hb h6 hr
      exact turn i U p f e L0 hiN hU hep hp400 out (fun hh => absurd hh (by omega)) (R + 1) 0 y a1 (by omega) (by omega) hp hp11 ho hb h6 hr
    | succ dd ihd =>
      intro i U p f e L0 hiN hU hep hp400 hid out y a1 hp hp11 ho hb h6 hr
      refine turn i U p f e L0 hiN hU hep hp400 out (fun hh q1 L1 y2 a2 hq1 hbt hN2 h211 ho2 hb2 h62 hr2 out2 => ?_) (R + 1) 0 y a1 (by omega) (by omega) hp hp11 ho hb h6 hr
      refine ihd (i + 1) (U ||| 1 <<< q1) (p + cs i q1) (un f i q1) (a2 11) L1 hh (fun r hr5 => ?_) h211 (by have := hcs i q1; omega) (by omega) (fun y3 a3 hp3 hp311 ho3 hb3 hr3 => ?_) y2 a2 hN2 (fun _ _ => rfl) ho2 hb2 h62 hr2
      · rw [or_bit]
        constructor
        · intro hb5
          rcases Bool.or_eq_true_iff.mp hb5 with h | h
          · obtain ⟨j, h1, h2⟩ := (hU r hr5).mp h
            exact ⟨j, by omega, by rw [un_n (by omega)]; exact h2⟩
          · have h9 := of_decide_eq_true h
            exact ⟨i, by omega, by rw [un_s, h9]⟩
        · intro ⟨j, h1, h2⟩
          apply Bool.or_eq_true_iff.mpr
          by_cases ej : j = i
          · rw [ej, un_s] at h2; exact Or.inr (decide_eq_true h2.symm)
          · rw [un_n ej] at h2; exact Or.inl ((hU r hr5).mpr ⟨j, by omega, h2⟩)
      · rw [← ful_s hh] at hr3
        exact out2 y3 a3 hp3 hp311 ho3 hb3 hr3
  intro a1 ho hb h6 h11
  exact lvl (n - 1) 0 0 0 (fun _ => 0) (a1 11) none (by omega) (fun r _ => ⟨fun h => by rw [Nat.zero_testBit] at h; exact absurd h (by decide), fun ⟨j, h1, _⟩ => absurd h1 (Nat.not_lt_zero j)⟩) h11 (by omega) (by omega) (fun y3 a3 _ h311 ho3 hb3 hr3 => ext y3 a3 ho3 hb3 (by rw [← ful_s (by omega)] at hr3; exact hr3) ((h311 0 (Nat.le_refl _)).trans h11)) (-1) a1 (fun j hj => absurd hj (Nat.not_lt_zero j)) (fun _ _ => rfl) ho hb h6 rfl
set_option maxHeartbeats 400000 in
set_option maxRecDepth 100000 in
theorem mx_X5_map (E : En) (ad : Nat → Nat) (g : Nat → Int32) (a : Nat → Nat → Int32) (v : Nat → Int64) (tl : va_W) (R Cc T n m D : Nat) (hd : Dim g R Cc T n m D) (hex : ¬ ex g = 0) (hB : ∀ q, q < 8 → ∃ r, r < 8 ∧ a 8 q = nI r) (h11 : a 11 0 = 0) (cs : Nat → Nat → Nat) (hcs : ∀ x y, cs x y ≤ 400) (hco : ∀ x y, x < n → y < R → coI (g 2 + 1) a D x y (2 * D * m) = nI (cs x y)) : Ct E mX5_map 2 0 0 [.ref (ad 17)] (mw E ad g a v tl) (fun o w => ∃ a1 : Nat → Nat → Int32, o = some (.int (nI (opt cs R n 0 0))) ∧ (∀ j, j ≠ 5 → j ≠ 6 → j ≠ 7 → j ≠ 8 → j ≠ 11 → a1 j = a j) ∧ (∀ q, q < 8 → ∃ r, r < 8 ∧ a1 8 q = nI r) ∧ (∀ j, j < n → pth cs R n 0 0 (fun _ => 0) j < 8 ∧ a1 5 j = nI (pth cs R n 0 0 (fun _ => 0) j)) ∧ (∀ j, n ≤ j → a1 5 j = a 5 j) ∧ a1 11 0 = 0 ∧ w = mw E ad g a1 v tl) := by
  refine Ct.of (by decide) (Nat.le_of_ble_eq_true rfl) (fun X C hQ hin => ?_)
  have C : Cx E X cX5_map 4 RX5 (some .int) 2 80 0 0 := C
  obtain ⟨⟨d0, d0a, d0b⟩, ⟨d1, d1a, d1b⟩, ⟨d2, d2a, d2b⟩, ⟨d4, d4a⟩, d5, ⟨d6, d6a⟩, dcm, dn0, dn1⟩ := id hd
  have hn1 : 1 ≤ n := ((Nat.eq_zero_or_pos n).elim (fun e => absurd (by rw [ex, d4, e]; rfl) hex) (fun e => e))
  refine mg_aload_n C dX5_map_0 rfl ?_
  refine mg_callV C (ct_X5_hasTable E _ _ _ _ _) oX5_125 17 rfl rfl rfl rfl rfl dX5_map_1 (fun o1 w1 z1 => ?_)
  obtain ⟨rfl, rfl⟩ := z1
  refine mg_v ?_
  refine mg_if_ne C 10 dX5_map_4 (by decide) (fun h4 => ?_) (fun h4 => absurd h4 (hex))
  refine mg_aload_n C dX5_map_10 rfl ?_
  refine mg_callV C (mx_X5_findCosts E _ _ _ _ _ R Cc T n m D hd) oX5_138 17 rfl rfl rfl rfl rfl dX5_map_11 (fun o11 w11 z11 => ?_)
  obtain ⟨a2, rfl, ho2, hq2, rfl⟩ := z11
  refine mg_v0 ?_
  refine mg_iconst (v := (-1)) C dX5_map_14 (by decide) ?_
  refine mg_istore_n C dX5_map_15 rfl ?_
  refine mg_lve (lv' := [(0, _), (1, _)]) rfl ?_
  refine mg_iconst (v := 0) C dX5_map_16 (by decide) ?_
  refine mg_istore_n C dX5_map_17 rfl ?_
  refine mg_lve (lv' := [(0, _), (1, _), (2, _)]) rfl ?_
  refine mg_aload_n C dX5_map_18 rfl ?_
  refine mg_get C inG_X5 fX5_50 (ci := 5) rfl rfl 17 rfl rfl dX5_map_19 ?_
  refine mg_iconst (v := 0) C dX5_map_22 (by decide) ?_
  refine mg_iconst (v := (-1)) C dX5_map_23 (by decide) ?_
  refine mg_iast C 7 rfl (vin00) dX5_map_24 (ws' := (mw E ad g (ups a2 6 (0 : Int32).toNatClampNeg (-1)) v tl)) rfl ?_
  exact mm_all E ad g a2 v tl X C R n d0 d0b d4 hn1 d4a cs hcs (fun x y hx hy => by rw [hq2 x y hx hy]; exact hco x y hx hy) _ hQ (fun a1 k1 k2 k3 k4 k5 => ⟨a1, rfl, fun j h5 h6 h7 h8 h11 => (k1 j h5 h6 h8 h11).trans (ho2 j h7), k2, k3, fun j hj => by rw [k4 j hj, ho2 5 (by decide)], k5, rfl⟩) _ (fun j h6 h8 h11 => ups_n h6) (fun q hq => by show ∃ r, r < 8 ∧ a2 8 q = nI r; rw [ho2 8 (by decide)]; exact hB q hq) rfl (by show a2 11 0 = 0; rw [ho2 11 (by decide)]; exact h11)
set_option maxHeartbeats 400000 in
set_option maxRecDepth 100000 in
theorem mv_mapB (E : En) (ad : Nat → Nat) (g : Nat → Int32) (a : Nat → Nat → Int32) (v : Nat → Int64) (tl : va_W) (hV : MO g a) (hex : ex g = 0) : Ct E mX5_map 2 0 0 [.ref (ad 17)] (mw E ad g a v tl) (fun o w => ∃ (ad1 : Nat → Nat) (g1 : Nat → Int32) (a1 : Nat → Nat → Int32) (v1 : Nat → Int64), o = some (.int (gMap g a)) ∧ Sh g (aMap g a) g1 a1 ∧ MO g1 a1 ∧ ad1 17 = ad 17 ∧ w = mw E ad1 g1 a1 v1 tl) := by
  refine Ct.of (by decide) (Nat.le_of_ble_eq_true rfl) (fun X C hQ hin => ?_)
  have C : Cx E X cX5_map 4 RX5 (some .int) 2 80 0 0 := C
  refine mg_aload_n C dX5_map_0 rfl ?_
  refine mg_callV C (ct_X5_hasTable E _ _ _ _ _) oX5_125 17 rfl rfl rfl rfl rfl dX5_map_1 (fun o1 w1 z1 => ?_)
  obtain ⟨rfl, rfl⟩ := z1
  refine mg_v ?_
  refine mg_if_ne C 10 dX5_map_4 (by decide) (fun h4 => absurd h4 (fun hh => hh hex)) (fun h4 => ?_)
  refine mg_bipush (v := (-3)) C dX5_map_7 (by decide) ?_
  exact mg_iret C hQ dX5_map_9 (⟨ad, g, a, v, by rw [gMap, if_pos hex], by rw [aMap, if_pos hex]; exact Sh.rf, hV, rfl, rfl⟩)
theorem mv_map (E : En) (ad : Nat → Nat) (g : Nat → Int32) (a : Nat → Nat → Int32) (v : Nat → Int64) (tl : va_W) (hV : MO g a) (hX : XV a) : Ct E mX5_map 2 0 0 [.ref (ad 17)] (mw E ad g a v tl) (fun o w => ∃ (ad1 : Nat → Nat) (g1 : Nat → Int32) (a1 : Nat → Nat → Int32) (v1 : Nat → Int64), o = some (.int (gMap g a)) ∧ Sh g (aMap g a) g1 a1 ∧ MO g1 a1 ∧ ad1 17 = ad 17 ∧ w = mw E ad1 g1 a1 v1 tl) := by
  by_cases hex : ex g = 0
  · exact mv_mapB E ad g a v tl hV hex
  · obtain ⟨R, Cc, T, n, m, D, F, hd, ⟨dF, dF1, dF2⟩, drow, dout⟩ := id hV.1
    refine (mx_X5_map E ad g a v tl R Cc T n m D hd hex hV.2.1 hV.2.2.2 (csN g a) (cs_le g a) (cs_co hd hX)).mono (fun o w hz => ?_)
    obtain ⟨⟨d0, d0a, d0b⟩, ⟨d1, d1a, d1b⟩, ⟨d2, d2a, d2b⟩, ⟨d4, d4a⟩, d5, ⟨d6, d6a⟩, dcm, dn0, dn1⟩ := id hd
    obtain ⟨a2, e1, ho2, hb2, h52, h53, h1112, e2⟩ := hz
    have er : (g 0).toNatClampNeg = R := (by rw [d0, nI_clamp (by omega)])
    have en : (g 4).toNatClampNeg = n := (by rw [d4, nI_clamp (by omega)])
    have k1 := ho2 1 (by decide) (by decide) (by decide) (by decide) (by decide)
    refine ⟨ad, g, a2, v, by rw [e1, gMap, if_neg hex, er, en], ?_, ⟨hV.1.mv (fun _ _ => rfl) (fun j hj => ?_) (fun j _ => by rw [k1]), hb2, by rw [ho2 13 (by decide) (by decide) (by decide) (by decide) (by decide)]; exact hV.2.2.1, h1112⟩, rfl, e2⟩
    · rw [aMap, if_neg hex, er, en]
      refine ⟨fun _ _ => rfl, fun j _ => by rw [k1]; rfl, fun j _ => by rw [ho2 3 (by decide) (by decide) (by decide) (by decide) (by decide)]; rfl, fun j _ => by rw [ho2 4 (by decide) (by decide) (by decide) (by decide) (by decide)]; rfl, fun j _ => by rw [ho2 13 (by decide) (by decide) (by decide) (by decide) (by decide)]; rfl, fun j hj => ?_⟩
      show a2 5 j = if j < n then _ else a 5 j
      by_cases q : j < n
      · rw [if_pos q]; exact (h52 j q).2
      · rw [if_neg q]; exact h53 j (by omega)
    · by_cases q : j < n
      · exact ⟨_, (h52 j q).1, (h52 j q).2⟩
      · rw [h53 j (by omega)]; exact drow j hj
