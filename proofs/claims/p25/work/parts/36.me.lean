set_option maxHeartbeats 400000 in
set_option maxRecDepth 100000 in
theorem mx_X5_findCosts (E : En) (ad : Nat → Nat) (g : Nat → Int32) (a : Nat → Nat → Int32) (v : Nat → Int64) (tl : va_W) (R Cc T n m D : Nat) (hd : Dim g R Cc T n m D) : Ct E mX5_findCosts 1 0 0 [.ref (ad 17)] (mw E ad g a v tl) (fun o w => ∃ a1 : Nat → Nat → Int32, o = none ∧ (∀ j, j ≠ 7 → a1 j = a j) ∧ w = mw E ad g a1 v tl) := by
  refine Ct.of (by decide) (Nat.le_of_ble_eq_true rfl) (fun X C hQ hin => ?_)
  have C : Cx E X cX5_findCosts 7 RX5 none 1 40 0 0 := C
  obtain ⟨⟨d0, d0a, d0b⟩, ⟨d1, d1a, d1b⟩, ⟨d2, d2a, d2b⟩, ⟨d4, d4a⟩, d5, ⟨d6, d6a⟩, dcm, dn0, dn1⟩ := id hd
  have lpc : ∀ (i r : Nat), i < n → r < R → ∀ (a1 : Nat → Nat → Int32), (∀ y : Int32, GG E X (mw E ad g a1 v tl) 0 0 99 [(0, .ref (ad 17)), (1, .int (nI i)), (2, .int (nI r)), (3, .int y), (4, .int (nI (2 * D * m)))] []) → ∀ (m1 c : Nat) (y : Int32), 2 * D * m < c + m1 → c ≤ 2 * D * m → GG E X (mw E ad g a1 v tl) 0 0 25 [(0, .ref (ad 17)), (1, .int (nI i)), (2, .int (nI r)), (3, .int y), (4, .int (nI c))] [] := by
    intro i r hiN hrR a1 out
    intro m1
    induction m1 with
    | zero => intro c y hm hi; omega
    | succ m1 ih =>
      intro c y hm hi
      refine mg_iload C dX5_findCosts_25 rfl ?_
      refine mg_iconst (v := 2) C dX5_findCosts_27 (by decide) ?_
      refine mg_aload_n C dX5_findCosts_28 rfl ?_
      refine mg_get C inG_X5 fX5_88 (ci := 5) rfl rfl 17 rfl rfl dX5_findCosts_29 ?_
      refine mg_imul C dX5_findCosts_32 ?_
      refine mg_aload_n C dX5_findCosts_33 rfl ?_
      refine mg_get C inG_X5 fX5_85 (ci := 5) rfl rfl 17 rfl rfl dX5_findCosts_34 ?_
      refine mg_imul C dX5_findCosts_37 ?_
      refine mg_tos (w := .int (nI (2 * D * m))) (by rw [uc_eq d6 d5]) ?_
      refine mg_icmp_ge C 99 dX5_findCosts_38 (by decide) (fun h38 => ?_) (fun h38 => ?_)
      · have hge : c = 2 * D * m := (by rcases Nat.lt_or_ge c (2 * D * m) with h | h; exact absurd (h38) (nI_ge h (by omega)); omega)
        rw [hge]
        refine mg_lv (lv' := [(0, _), (1, _), (2, _), (3, _), (4, _)]) (lv_tk 5 rfl) ?_
        exact out y
      · have hlt : c < (2 * D * m) := (by rcases Nat.lt_or_ge c (2 * D * m) with h | h; exact h; exact absurd (nI_le h (by omega)) h38)
        have hin9 : vp_in (24 * nI r + nI c) 192 := (by rw [pl_eq']; exact vp_in_nI (by omega) (by decide))
        refine mg_aload_n C dX5_findCosts_41 rfl ?_
        refine mg_get C inG_X5 fX5_23 (ci := 5) rfl rfl 17 rfl rfl dX5_findCosts_42 ?_
        refine mg_bipush (v := 24) C dX5_findCosts_45 (by decide) ?_
        refine mg_iload_n C dX5_findCosts_47 rfl ?_
        refine mg_imul C dX5_findCosts_48 ?_
        refine mg_iload C dX5_findCosts_49 rfl ?_
        refine mg_iadd C dX5_findCosts_51 ?_
        refine mg_iald C 15 rfl (hin9) dX5_findCosts_52 ?_
        refine mg_istore C dX5_findCosts_53 rfl ?_
        refine mg_lve (lv' := [(0, _), (1, _), (2, _), (3, _), (4, _), (5, _)]) rfl ?_
        refine mg_iload C dX5_findCosts_55 rfl ?_
        refine mg_iconst (v := (-1)) C dX5_findCosts_57 (by decide) ?_
        refine mg_icmp_ne C 65 dX5_findCosts_58 (by decide) (fun h58 => ?_) (fun h58 => ?_)
        · refine mg_iload C dX5_findCosts_65 rfl ?_
          refine mg_aload_n C dX5_findCosts_67 rfl ?_
          refine mg_iload_n C dX5_findCosts_68 rfl ?_
          refine mg_iload C dX5_findCosts_69 rfl ?_
          refine mg_callV C (mx_X5_wanted E _ _ _ _ _ R Cc T n m D hd i c hiN hlt) oX5_129 17 rfl rfl rfl rfl rfl dX5_findCosts_71 (fun o71 w71 z71 => ?_)
          obtain ⟨rfl, rfl⟩ := z71
          refine mg_v ?_
          refine mg_isub C dX5_findCosts_74 ?_
          refine mg_istore C dX5_findCosts_75 rfl ?_
          refine mg_lve (lv' := [(0, _), (1, _), (2, _), (3, _), (4, _), (5, _), (6, _)]) rfl ?_
          refine mg_iload_n C dX5_findCosts_77 rfl ?_
          refine mg_iload C dX5_findCosts_78 rfl ?_
          refine mg_if_ge C 89 dX5_findCosts_80 (by decide) (fun h80 => ?_) (fun h80 => ?_)
          · refine mg_iload C dX5_findCosts_89 rfl ?_
            refine mg_iadd C dX5_findCosts_91 ?_
            refine mg_istore_n C dX5_findCosts_92 rfl ?_
            refine mg_lve (lv' := [(0, _), (1, _), (2, _), (3, _), (4, _), (5, _), (6, _)]) rfl ?_
            refine mg_iinc C dX5_findCosts_93 rfl rfl ?_
            refine mg_lve (lv' := [(0, _), (1, _), (2, _), (3, _), (4, _), (5, _), (6, _)]) rfl ?_
            refine mg_goto C 25 dX5_findCosts_96 (by decide) ?_
            refine mg_lv (lv' := [(0, _), (1, _), (2, _), (3, _), (4, _)]) (lv_tk 5 rfl) ?_
            rw [show nI c + Int32.ofInt 1 = nI (c + 1) from (nI_succ c).symm]
            exact ih (c + 1) _ (by omega) (by omega)
          · refine mg_iload C dX5_findCosts_83 rfl ?_
            refine mg_ineg C dX5_findCosts_85 ?_
            refine mg_goto C 91 dX5_findCosts_86 (by decide) ?_
            refine mg_iadd C dX5_findCosts_91 ?_
            refine mg_istore_n C dX5_findCosts_92 rfl ?_
            refine mg_lve (lv' := [(0, _), (1, _), (2, _), (3, _), (4, _), (5, _), (6, _)]) rfl ?_
            refine mg_iinc C dX5_findCosts_93 rfl rfl ?_
            refine mg_lve (lv' := [(0, _), (1, _), (2, _), (3, _), (4, _), (5, _), (6, _)]) rfl ?_
            refine mg_goto C 25 dX5_findCosts_96 (by decide) ?_
            refine mg_lv (lv' := [(0, _), (1, _), (2, _), (3, _), (4, _)]) (lv_tk 5 rfl) ?_
            rw [show nI c + Int32.ofInt 1 = nI (c + 1) from (nI_succ c).symm]
            exact ih (c + 1) _ (by omega) (by omega)
        · refine mg_iconst (v := 0) C dX5_findCosts_61 (by decide) ?_
          refine mg_goto C 75 dX5_findCosts_62 (by decide) ?_
          refine mg_istore C dX5_findCosts_75 rfl ?_
          refine mg_lve (lv' := [(0, _), (1, _), (2, _), (3, _), (4, _), (5, _), (6, _)]) rfl ?_
          refine mg_iload_n C dX5_findCosts_77 rfl ?_
          refine mg_iload C dX5_findCosts_78 rfl ?_
          refine mg_if_ge C 89 dX5_findCosts_80 (by decide) (fun h80 => ?_) (fun h80 => ?_)
          · refine mg_iload C dX5_findCosts_89 rfl ?_
            refine mg_iadd C dX5_findCosts_91 ?_
            refine mg_istore_n C dX5_findCosts_92 rfl ?_
            refine mg_lve (lv' := [(0, _), (1, _), (2, _), (3, _), (4, _), (5, _), (6, _)]) rfl ?_
            refine mg_iinc C dX5_findCosts_93 rfl rfl ?_
            refine mg_lve (lv' := [(0, _), (1, _), (2, _), (3, _), (4, _), (5, _), (6, _)]) rfl ?_
            refine mg_goto C 25 dX5_findCosts_96 (by decide) ?_
            refine mg_lv (lv' := [(0, _), (1, _), (2, _), (3, _), (4, _)]) (lv_tk 5 rfl) ?_
            rw [show nI c + Int32.ofInt 1 = nI (c + 1) from (nI_succ c).symm]
            exact ih (c + 1) _ (by omega) (by omega)
          · refine mg_iload C dX5_findCosts_83 rfl ?_
            refine mg_ineg C dX5_findCosts_85 ?_
            refine mg_goto C 91 dX5_findCosts_86 (by decide) ?_
            refine mg_iadd C dX5_findCosts_91 ?_
            refine mg_istore_n C dX5_findCosts_92 rfl ?_
            refine mg_lve (lv' := [(0, _), (1, _), (2, _), (3, _), (4, _), (5, _), (6, _)]) rfl ?_
            refine mg_iinc C dX5_findCosts_93 rfl rfl ?_
            refine mg_lve (lv' := [(0, _), (1, _), (2, _), (3, _), (4, _), (5, _), (6, _)]) rfl ?_
            refine mg_goto C 25 dX5_findCosts_96 (by decide) ?_
            refine mg_lv (lv' := [(0, _), (1, _), (2, _), (3, _), (4, _)]) (lv_tk 5 rfl) ?_
            rw [show nI c + Int32.ofInt 1 = nI (c + 1) from (nI_succ c).symm]
            exact ih (c + 1) _ (by omega) (by omega)
  have lpr : ∀ (i : Nat), i < n → (∀ (a1 : Nat → Nat → Int32), (∀ j, j ≠ 7 → a1 j = a j) → GG E X (mw E ad g a1 v tl) 0 0 117 [(0, .ref (ad 17)), (1, .int (nI i)), (2, .int (nI R))] []) → ∀ (m1 r : Nat) (a1 : Nat → Nat → Int32), R < r + m1 → r ≤ R → (∀ j, j ≠ 7 → a1 j = a j) → GG E X (mw E ad g a1 v tl) 0 0 12 [(0, .ref (ad 17)), (1, .int (nI i)), (2, .int (nI r))] [] := by
    intro i hiN out
    intro m1
    induction m1 with
    | zero => intro r a1 hm hi; omega
    | succ m1 ih =>
      intro r a1 hm hi ho
      refine mg_iload_n C dX5_findCosts_12 rfl ?_
      refine mg_aload_n C dX5_findCosts_13 rfl ?_
      refine mg_get C inG_X5 fX5_7 (ci := 5) rfl rfl 17 rfl rfl dX5_findCosts_14 ?_
      refine mg_icmp_ge C 117 dX5_findCosts_17 (by decide) (fun h17 => ?_) (fun h17 => ?_)
      · have hge : r = R := (by rcases Nat.lt_or_ge r R with h | h; exact absurd (by rw [d0] at h17; exact h17) (nI_ge h (by omega)); omega)
        subst hge
        exact out a1 ho
      · have hlt : r < R := (by rcases Nat.lt_or_ge r R with h | h; exact h; exact absurd (by rw [d0]; exact nI_le h (by omega)) h17)
        have hin6 : vp_in (8 * nI i + nI r) 64 := (by rw [show (8 : Int32) = nI 8 from rfl, pk_mul, nI_add]; exact vp_in_nI (by omega) (by decide))
        refine mg_iconst (v := 0) C dX5_findCosts_20 (by decide) ?_
        refine mg_istore_n C dX5_findCosts_21 rfl ?_
        refine mg_lve (lv' := [(0, _), (1, _), (2, _), (3, _)]) rfl ?_
        refine mg_iconst (v := 0) C dX5_findCosts_22 (by decide) ?_
        refine mg_istore C dX5_findCosts_23 rfl ?_
        refine mg_lve (lv' := [(0, _), (1, _), (2, _), (3, _), (4, _)]) rfl ?_
        refine lpc i r hiN hlt a1 (fun y1 => ?_) (2 * D * m + 1) 0 _ (by omega) (by omega)
        refine mg_aload_n C dX5_findCosts_99 rfl ?_
        refine mg_get C inG_X5 fX5_47 (ci := 5) rfl rfl 17 rfl rfl dX5_findCosts_100 ?_
        refine mg_bipush (v := 8) C dX5_findCosts_103 (by decide) ?_
        refine mg_iload_n C dX5_findCosts_105 rfl ?_
        refine mg_imul C dX5_findCosts_106 ?_
        refine mg_iload_n C dX5_findCosts_107 rfl ?_
        refine mg_iadd C dX5_findCosts_108 ?_
        refine mg_iload_n C dX5_findCosts_109 rfl ?_
        refine mg_topi (fun zv110 ezv110 => ?_)
        refine mg_iast C 8 rfl (hin6) dX5_findCosts_110 (ws' := (mw E ad g (ups a1 7 _ zv110) v tl)) rfl ?_
        refine mg_iinc C dX5_findCosts_111 rfl rfl ?_
        refine mg_lve (lv' := [(0, _), (1, _), (2, _), (3, _), (4, _)]) rfl ?_
        refine mg_goto C 12 dX5_findCosts_114 (by decide) ?_
        refine mg_lv (lv' := [(0, _), (1, _), (2, _)]) (lv_tk 3 rfl) ?_
        rw [show nI r + Int32.ofInt 1 = nI (r + 1) from (nI_succ r).symm]
        exact ih (r + 1) _ (by omega) (by omega) (fun j hj => (ups_n hj).trans (ho j hj))
  have lpi : ∀ (m1 i : Nat) (a1 : Nat → Nat → Int32), n < i + m1 → i ≤ n → (∀ j, j ≠ 7 → a1 j = a j) → GG E X (mw E ad g a1 v tl) 0 0 2 [(0, .ref (ad 17)), (1, .int (nI i))] [] := by
    intro m1
    induction m1 with
    | zero => intro i a1 hm hi; omega
    | succ m1 ih =>
      intro i a1 hm hi ho
      refine mg_iload_n C dX5_findCosts_2 rfl ?_
      refine mg_aload_n C dX5_findCosts_3 rfl ?_
      refine mg_get C inG_X5 fX5_82 (ci := 5) rfl rfl 17 rfl rfl dX5_findCosts_4 ?_
      refine mg_icmp_ge C 123 dX5_findCosts_7 (by decide) (fun h7 => ?_) (fun h7 => ?_)
      · exact mg_vret C hQ dX5_findCosts_123 (⟨a1, rfl, ho, rfl⟩)
      · have hlt : i < n := (by rcases Nat.lt_or_ge i n with h | h; exact h; exact absurd (by rw [d4]; exact nI_le h (by omega)) h7)
        refine mg_iconst (v := 0) C dX5_findCosts_10 (by decide) ?_
        refine mg_istore_n C dX5_findCosts_11 rfl ?_
        refine mg_lve (lv' := [(0, _), (1, _), (2, _)]) rfl ?_
        refine lpr i hlt (fun a2 ho2 => ?_) (R + 1) 0 a1 (by omega) (by omega) ho
        refine mg_iinc C dX5_findCosts_117 rfl rfl ?_
        refine mg_goto C 2 dX5_findCosts_120 (by decide) ?_
        refine mg_lv (lv' := [(0, _), (1, _)]) (lv_tk 2 rfl) ?_
        rw [show nI i + Int32.ofInt 1 = nI (i + 1) from (nI_succ i).symm]
        exact ih (i + 1) a2 (by omega) (by omega) ho2
  refine mg_iconst (v := 0) C dX5_findCosts_0 (by decide) ?_
  refine mg_istore_n C dX5_findCosts_1 rfl ?_
  refine mg_lve (lv' := [(0, _), (1, _)]) rfl ?_
  exact lpi (n + 1) 0 a (by omega) (by omega) (fun _ _ => rfl)
set_option maxHeartbeats 400000 in
set_option maxRecDepth 100000 in
theorem mx_X5_isUsed (E : En) (ad : Nat → Nat) (g : Nat → Int32) (a : Nat → Nat → Int32) (v : Nat → Int64) (tl : va_W) (x : Int32) (i : Nat) (hi8 : i ≤ 8) : Ct E mX5_isUsed 0 0 0 [.ref (ad 17), .int x, .int (nI i)] (mw E ad g a v tl) (fun o w => ∃ r : Int32, o = some (.int r) ∧ w = mw E ad g a v tl) := by
  refine Ct.of (by decide) (Nat.le_of_ble_eq_true rfl) (fun X C hQ hin => ?_)
  have C : Cx E X cX5_isUsed 4 RX5 (some .boolean) 0 0 0 0 := C
  have loop : ∀ (m1 k : Nat), i < k + m1 → k ≤ i → GG E X (mw E ad g a v tl) 0 0 2 [(0, .ref (ad 17)), (1, .int x), (2, .int (nI i)), (3, .int (nI k))] [] := by
    intro m1
    induction m1 with
    | zero => intro k hm hi; omega
    | succ m1 ih =>
      intro k hm hi
      refine mg_iload_n C dX5_isUsed_2 rfl ?_
      refine mg_iload_n C dX5_isUsed_3 rfl ?_
      refine mg_icmp_ge C 25 dX5_isUsed_4 (by decide) (fun h4 => ?_) (fun h4 => ?_)
      · refine mg_iconst (v := 0) C dX5_isUsed_25 (by decide) ?_
        exact mg_zret C hQ (rfl) dX5_isUsed_26 (⟨_, rfl, rfl⟩)
      · have hlt : k < i := (by rcases Nat.lt_or_ge k i with h | h; exact h; exact absurd (nI_le h (by omega)) h4)
        have hin8 : vp_in (nI k) 8 := vp_in_nI (by omega) (by decide)
        refine mg_aload_n C dX5_isUsed_7 rfl ?_
        refine mg_get C inG_X5 fX5_50 (ci := 5) rfl rfl 17 rfl rfl dX5_isUsed_8 ?_
        refine mg_iload_n C dX5_isUsed_11 rfl ?_
        refine mg_iald C 7 rfl (hin8) dX5_isUsed_12 ?_
        refine mg_iload_n C dX5_isUsed_13 rfl ?_
        refine mg_icmp_ne C 19 dX5_isUsed_14 (by decide) (fun h14 => ?_) (fun h14 => ?_)
        · refine mg_iinc C dX5_isUsed_19 rfl rfl ?_
          refine mg_lve (lv' := [(0, _), (1, _), (2, _), (3, _)]) rfl ?_
          refine mg_goto C 2 dX5_isUsed_22 (by decide) ?_
          rw [show nI k + Int32.ofInt 1 = nI (k + 1) from (nI_succ k).symm]
          exact ih (k + 1) (by omega) (by omega)
        · refine mg_iconst (v := 1) C dX5_isUsed_17 (by decide) ?_
          exact mg_zret C hQ (rfl) dX5_isUsed_18 (⟨_, rfl, rfl⟩)
  refine mg_iconst (v := 0) C dX5_isUsed_0 (by decide) ?_
  refine mg_istore_n C dX5_isUsed_1 rfl ?_
  refine mg_lve (lv' := [(0, _), (1, _), (2, _), (3, _)]) rfl ?_
  exact loop (i + 1) 0 (by omega) (by omega)
set_option maxHeartbeats 1000000 in
set_option maxRecDepth 100000 in
theorem mv_map (E : En) (ad : Nat → Nat) (g : Nat → Int32) (a : Nat → Nat → Int32) (v : Nat → Int64) (tl : va_W) (hV : MO g a) : Ct E mX5_map 2 0 0 [.ref (ad 17)] (mw E ad g a v tl) (fun o w => ∃ (r : Int32) (ad1 : Nat → Nat) (g1 : Nat → Int32) (a1 : Nat → Nat → Int32) (v1 : Nat → Int64), o = some (.int r) ∧ Sh g a g1 a1 ∧ MO g1 a1 ∧ ad1 17 = ad 17 ∧ w = mw E ad1 g1 a1 v1 tl) := by
  refine Ct.of (by decide) (Nat.le_of_ble_eq_true rfl) (fun X C hQ hin => ?_)
  have C : Cx E X cX5_map 4 RX5 (some .int) 2 80 0 0 := C
  obtain ⟨R, Cc, T, n, m, D, F, ⟨⟨d0, d0a, d0b⟩, ⟨d1, d1a, d1b⟩, ⟨d2, d2a, d2b⟩, ⟨d4, d4a⟩, d5, ⟨d6, d6a⟩, dcm, dn0, dn1⟩, ⟨dF, dF1, dF2⟩, drow, dout⟩ := id hV.1
  have fin : ∀ (m1 k : Nat) (y : Int32) (a1 : Nat → Nat → Int32), n < k + m1 → k ≤ n → (∀ j, j ≠ 5 → j ≠ 6 → j ≠ 7 → j ≠ 8 → j ≠ 11 → a1 j = a j) → (∀ q, q < 8 → ∃ r, r < 8 ∧ a1 5 q = nI r) → (∀ q, q < 8 → ∃ r, r < 8 ∧ a1 8 q = nI r) → GG E X (mw E ad g a1 v tl) 0 0 211 [(0, .ref (ad 17)), (1, .int y), (2, .int (nI 0 + Int32.ofInt (-1))), (3, .int (nI k))] [] := by
    intro m1
    induction m1 with
    | zero => intro k y a1 hm hi; omega
    | succ m1 ih =>
      intro k y a1 hm hi ho h5 hb
      refine mg_iload_n C dX5_map_211 rfl ?_
      refine mg_aload_n C dX5_map_212 rfl ?_
      refine mg_get C inG_X5 fX5_82 (ci := 5) rfl rfl 17 rfl rfl dX5_map_213 ?_
      refine mg_icmp_ge C 237 dX5_map_216 (by decide) (fun h216 => ?_) (fun h216 => ?_)
      · refine mg_iload_n C dX5_map_237 rfl ?_
        exact mg_iret C hQ dX5_map_238 (⟨_, ad, g, a1, v, rfl, Sh.ar (ho 1 (by decide) (by decide) (by decide) (by decide) (by decide)) (ho 3 (by decide) (by decide) (by decide) (by decide) (by decide)) (ho 4 (by decide) (by decide) (by decide) (by decide) (by decide)) (ho 13 (by decide) (by decide) (by decide) (by decide) (by decide)), ⟨hV.1.mv (fun _ _ => rfl) h5 (fun j _ => by rw [ho 1 (by decide) (by decide) (by decide) (by decide) (by decide)]), hb, by rw [ho 13 (by decide) (by decide) (by decide) (by decide) (by decide)]; exact hV.2.2⟩, rfl, rfl⟩)
      · have hlt : k < n := (by rcases Nat.lt_or_ge k n with h | h; exact h; exact absurd (by rw [d4]; exact nI_le h (by omega)) h216)
        have hin8 : vp_in (nI k) 8 := vp_in_nI (by omega) (by decide)
        refine mg_aload_n C dX5_map_219 rfl ?_
        refine mg_get C inG_X5 fX5_38 (ci := 5) rfl rfl 17 rfl rfl dX5_map_220 ?_
        refine mg_iload_n C dX5_map_223 rfl ?_
        refine mg_aload_n C dX5_map_224 rfl ?_
        refine mg_get C inG_X5 fX5_53 (ci := 5) rfl rfl 17 rfl rfl dX5_map_225 ?_
        refine mg_iload_n C dX5_map_228 rfl ?_
        refine mg_iald C 6 rfl (hin8) dX5_map_229 ?_
        refine mg_topi (fun zv230 ezv230 => ?_)
        refine mg_iast C 11 rfl (hin8) dX5_map_230 (ws' := (mw E ad g (ups a1 5 ((nI k) : Int32).toNatClampNeg zv230) v tl)) rfl ?_
        refine mg_iinc C dX5_map_231 rfl rfl ?_
        refine mg_lve (lv' := [(0, _), (1, _), (2, _), (3, _)]) rfl ?_
        refine mg_goto C 211 dX5_map_234 (by decide) ?_
        have ezk : a1 8 k = zv230 := (by rw [ezv230, nI_clamp (by omega)])
        rw [show nI k + Int32.ofInt 1 = nI (k + 1) from (nI_succ k).symm]
        refine ih (k + 1) y _ (by omega) (by omega) (fun j h5 h6 h7 h8 h11 => (ups_n h5).trans (ho j h5 h6 h7 h8 h11)) (fun q hq => ?_) hb
        show ∃ r, r < 8 ∧ upd (a1 5) _ _ q = nI r
        rw [nI_clamp (by omega)]
        by_cases e : q = k
        · subst e; rw [pk_us, ← ezk]; exact hb q hq
        · rw [pk_un e]; exact h5 q hq
  have ext : ∀ (y : Int32) (a1 : Nat → Nat → Int32), (∀ j, j ≠ 6 → j ≠ 7 → j ≠ 8 → j ≠ 11 → a1 j = a j) → (∀ q, q < 8 → ∃ r, r < 8 ∧ a1 8 q = nI r) → GG E X (mw E ad g a1 v tl) 0 0 25 [(0, .ref (ad 17)), (1, .int y), (2, .int (nI 0 + Int32.ofInt (-1)))] [] := by
    intro y a1 ho hb
    refine mg_iload_n C dX5_map_25 rfl ?_
    refine mg_if_lt C 209 dX5_map_26 (by decide) (fun h26 => ?_) (fun h26 => absurd h26 (fun hh => hh (by decide)))
    refine mg_iconst (v := 0) C dX5_map_209 (by decide) ?_
    refine mg_istore_n C dX5_map_210 rfl ?_
    refine mg_lve (lv' := [(0, _), (1, _), (2, _), (3, _)]) rfl ?_
    exact fin (n + 1) 0 y a1 (by omega) (by omega) (fun j h5 h6 h7 h8 h11 => ho j h6 h7 h8 h11) (by rw [ho 5 (by decide) (by decide) (by decide) (by decide)]; exact drow) hb
  have cpy : ∀ (i : Nat) (f : Nat → Int32), (∀ j, j < n → ∃ r, r < R ∧ f j = nI r) → (∀ (y : Int32) (a1 : Nat → Nat → Int32), (∀ j, j ≠ 6 → j ≠ 7 → j ≠ 8 → j ≠ 11 → a1 j = a j) → (∀ q, q < 8 → ∃ r, r < 8 ∧ a1 8 q = nI r) → a1 6 = f → GG E X (mw E ad g a1 v tl) 0 0 25 [(0, .ref (ad 17)), (1, .int y), (2, .int (nI i))] []) → ∀ (m1 k : Nat) (y : Int32) (a1 : Nat → Nat → Int32), n < k + m1 → k ≤ n → (∀ j, j ≠ 6 → j ≠ 7 → j ≠ 8 → j ≠ 11 → a1 j = a j) → (∀ q, q < 8 → ∃ r, r < 8 ∧ a1 8 q = nI r) → a1 6 = f → GG E X (mw E ad g a1 v tl) 0 0 167 [(0, .ref (ad 17)), (1, .int y), (2, .int (nI i)), (3, .int (nI k))] [] := by
    intro i f hN out
    intro m1
    induction m1 with
    | zero => intro k y a1 hm hi; omega
    | succ m1 ih =>
      intro k y a1 hm hi ho hb h6
      refine mg_iload_n C dX5_map_167 rfl ?_
      refine mg_aload_n C dX5_map_168 rfl ?_
      refine mg_get C inG_X5 fX5_82 (ci := 5) rfl rfl 17 rfl rfl dX5_map_169 ?_
      refine mg_icmp_ge C 193 dX5_map_172 (by decide) (fun h172 => ?_) (fun h172 => ?_)
      · refine mg_goto C 25 dX5_map_193 (by decide) ?_
        refine mg_lv (lv' := [(0, _), (1, _), (2, _)]) (lv_tk 3 rfl) ?_
        exact out y a1 ho hb h6
      · have hlt : k < n := (by rcases Nat.lt_or_ge k n with h | h; exact h; exact absurd (by rw [d4]; exact nI_le h (by omega)) h172)
        have hin8 : vp_in (nI k) 8 := vp_in_nI (by omega) (by decide)
        refine mg_aload_n C dX5_map_175 rfl ?_
        refine mg_get C inG_X5 fX5_53 (ci := 5) rfl rfl 17 rfl rfl dX5_map_176 ?_
        refine mg_iload_n C dX5_map_179 rfl ?_
        refine mg_aload_n C dX5_map_180 rfl ?_
        refine mg_get C inG_X5 fX5_50 (ci := 5) rfl rfl 17 rfl rfl dX5_map_181 ?_
        refine mg_iload_n C dX5_map_184 rfl ?_
        refine mg_iald C 7 rfl (hin8) dX5_map_185 ?_
        refine mg_topi (fun zv186 ezv186 => ?_)
        refine mg_iast C 6 rfl (hin8) dX5_map_186 (ws' := (mw E ad g (ups a1 8 ((nI k) : Int32).toNatClampNeg zv186) v tl)) rfl ?_
        refine mg_iinc C dX5_map_187 rfl rfl ?_
        refine mg_lve (lv' := [(0, _), (1, _), (2, _), (3, _)]) rfl ?_
        refine mg_goto C 167 dX5_map_190 (by decide) ?_
        have ezk : a1 6 k = zv186 := (by rw [ezv186, nI_clamp (by omega)])
        rw [show nI k + Int32.ofInt 1 = nI (k + 1) from (nI_succ k).symm]
        refine ih (k + 1) y _ (by omega) (by omega) (fun j h6 h7 h8 h11 => (ups_n h8).trans (ho j h6 h7 h8 h11)) (fun q hq => ?_) h6
        show ∃ r, r < 8 ∧ upd (a1 8) _ _ q = nI r
        rw [nI_clamp (by omega)]
        by_cases e : q = k
        · subst e; rw [pk_us, ← ezk, h6]; obtain ⟨r, hr, er⟩ := hN q hlt; exact ⟨r, by omega, er⟩
        · rw [pk_un e]; exact hb q hq
  have nxt : ∀ (i : Nat), i < n → ∀ (f : Nat → Int32) (y : Int32) (q0 : Nat), (∀ (q : Nat) (a1 : Nat → Nat → Int32), q0 ≤ q → q ≤ R → (∀ j, j < i → a1 6 j = f j) → (∀ j, j ≠ 6 → j ≠ 7 → j ≠ 8 → j ≠ 11 → a1 j = a j) → (∀ q, q < 8 → ∃ r, r < 8 ∧ a1 8 q = nI r) → a1 6 i = nI q → GG E X (mw E ad g a1 v tl) 0 0 79 [(0, .ref (ad 17)), (1, .int y), (2, .int (nI i))] []) → ∀ (m1 q : Nat) (a1 : Nat → Nat → Int32), R < q + m1 → q ≤ R → q0 ≤ q → (∀ j, j < i → a1 6 j = f j) → (∀ j, j ≠ 6 → j ≠ 7 → j ≠ 8 → j ≠ 11 → a1 j = a j) → (∀ q, q < 8 → ∃ r, r < 8 ∧ a1 8 q = nI r) → a1 6 i = nI q → GG E X (mw E ad g a1 v tl) 0 0 39 [(0, .ref (ad 17)), (1, .int y), (2, .int (nI i))] [] := by
    intro i hiN f y q0 out
    have hin8 : vp_in (nI i) 8 := vp_in_nI (by omega) (by decide)
    intro m1
    induction m1 with
    | zero => intro q a1 hm hi; omega
    | succ m1 ih =>
      intro q a1 hm hi hq0 hp ho hb h6
      refine mg_aload_n C dX5_map_39 rfl ?_
      refine mg_get C inG_X5 fX5_50 (ci := 5) rfl rfl 17 rfl rfl dX5_map_40 ?_
      refine mg_iload_n C dX5_map_43 rfl ?_
      refine mg_iald C 7 rfl (hin8) dX5_map_44 ?_
      refine mg_tos (w := .int (nI q)) (by rw [nI_clamp (by omega), h6]) ?_
      refine mg_aload_n C dX5_map_45 rfl ?_
      refine mg_get C inG_X5 fX5_7 (ci := 5) rfl rfl 17 rfl rfl dX5_map_46 ?_
      refine mg_icmp_ge C 79 dX5_map_49 (by decide) (fun h49 => ?_) (fun h49 => ?_)
      · exact out q a1 hq0 hi hp ho hb h6
      · have hlt : q < R := (by rcases Nat.lt_or_ge q R with h | h; exact h; exact absurd (by rw [d0]; exact nI_le h (by omega)) h49)
        refine mg_aload_n C dX5_map_52 rfl ?_
        refine mg_aload_n C dX5_map_53 rfl ?_
        refine mg_get C inG_X5 fX5_50 (ci := 5) rfl rfl 17 rfl rfl dX5_map_54 ?_
        refine mg_iload_n C dX5_map_57 rfl ?_
        refine mg_iald C 7 rfl (hin8) dX5_map_58 ?_
        refine mg_tos (w := .int (nI q)) (by rw [nI_clamp (by omega), h6]) ?_
        refine mg_iload_n C dX5_map_59 rfl ?_
        refine mg_callV C (mx_X5_isUsed E _ _ _ _ _ _ i (by omega)) oX5_141 17 rfl rfl rfl rfl rfl dX5_map_60 (fun o60 w60 z60 => ?_)
        obtain ⟨r60, rfl, rfl⟩ := z60
        refine mg_v ?_
        refine mg_if_eq C 79 dX5_map_63 (by decide) (fun h63 => ?_) (fun h63 => ?_)
        · exact out q a1 hq0 hi hp ho hb h6
        · refine mg_aload_n C dX5_map_66 rfl ?_
          refine mg_get C inG_X5 fX5_50 (ci := 5) rfl rfl 17 rfl rfl dX5_map_67 ?_
          refine mg_iload_n C dX5_map_70 rfl ?_
          refine mg_dup2_11 C dX5_map_71 rfl rfl ?_
          refine mg_iald C 7 rfl (hin8) dX5_map_72 ?_
          refine mg_tos (w := .int (nI q)) (by rw [nI_clamp (by omega), h6]) ?_
          refine mg_iconst (v := 1) C dX5_map_73 (by decide) ?_
          refine mg_iadd C dX5_map_74 ?_
          refine mg_tos (w := .int (nI (q + 1))) (by rw [nI_1]) ?_
          refine mg_iast C 7 rfl (hin8) dX5_map_75 (ws' := (mw E ad g (ups a1 6 ((nI i) : Int32).toNatClampNeg (nI (q + 1))) v tl)) rfl ?_
          refine mg_goto C 39 dX5_map_76 (by decide) ?_
          refine ih (q + 1) _ (by omega) (by omega) (by omega) (fun j hj => ?_) (fun j h6' h7 h8 h11 => (ups_n h6').trans (ho j h6' h7 h8 h11)) hb ?_
          · show upd (a1 6) _ _ j = _
            rw [nI_clamp (by omega), pk_un (by omega)]; exact hp j hj
          · show upd (a1 6) _ _ i = _
            rw [nI_clamp (by omega)]; exact pk_us
  have turn : ∀ (i : Nat), i < n → ∀ (f : Nat → Int32), (∀ j, j < i → ∃ r, r < R ∧ f j = nI r) → (∀ (y : Int32) (a1 : Nat → Nat → Int32), (∀ j, j < i → a1 6 j = f j) → (∀ j, j ≠ 6 → j ≠ 7 → j ≠ 8 → j ≠ 11 → a1 j = a j) → (∀ q, q < 8 → ∃ r, r < 8 ∧ a1 8 q = nI r) → GG E X (mw E ad g a1 v tl) 0 0 25 [(0, .ref (ad 17)), (1, .int y), (2, .int (nI i + Int32.ofInt (-1)))] []) → (i + 1 < n → ∀ (y : Int32) (a1 : Nat → Nat → Int32), (∀ j, j < i + 1 → ∃ r, r < R ∧ a1 6 j = nI r) → (∀ j, j ≠ 6 → j ≠ 7 → j ≠ 8 → j ≠ 11 → a1 j = a j) → (∀ q, q < 8 → ∃ r, r < 8 ∧ a1 8 q = nI r) → a1 6 (i + 1) = -1 → (∀ (y : Int32) (a2 : Nat → Nat → Int32), (∀ j, j < i + 1 → a2 6 j = a1 6 j) → (∀ j, j ≠ 6 → j ≠ 7 → j ≠ 8 → j ≠ 11 → a2 j = a j) → (∀ q, q < 8 → ∃ r, r < 8 ∧ a2 8 q = nI r) → GG E X (mw E ad g a2 v tl) 0 0 25 [(0, .ref (ad 17)), (1, .int y), (2, .int (nI (i + 1) + Int32.ofInt (-1)))] []) → GG E X (mw E ad g a1 v tl) 0 0 25 [(0, .ref (ad 17)), (1, .int y), (2, .int (nI (i + 1)))] []) → ∀ (m1 q : Nat) (y : Int32) (a1 : Nat → Nat → Int32), R < q + m1 → q ≤ R → (∀ j, j < i → a1 6 j = f j) → (∀ j, j ≠ 6 → j ≠ 7 → j ≠ 8 → j ≠ 11 → a1 j = a j) → (∀ q, q < 8 → ∃ r, r < 8 ∧ a1 8 q = nI r) → a1 6 i = nI q - 1 → GG E X (mw E ad g a1 v tl) 0 0 25 [(0, .ref (ad 17)), (1, .int y), (2, .int (nI i))] [] := by
    intro i hiN f hN out desc
    have hin8 : vp_in (nI i) 8 := vp_in_nI (by omega) (by decide)
    intro m1
    induction m1 with
    | zero => intro q y a1 hm hi; omega
    | succ m1 ih =>
      intro q y a1 hm hi hp ho hb h6
      refine mg_iload_n C dX5_map_25 rfl ?_
      refine mg_if_lt C 209 dX5_map_26 (by decide) (fun h26 => absurd h26 (nI_pos (by omega))) (fun h26 => ?_)
      refine mg_aload_n C dX5_map_29 rfl ?_
      refine mg_get C inG_X5 fX5_50 (ci := 5) rfl rfl 17 rfl rfl dX5_map_30 ?_
      refine mg_iload_n C dX5_map_33 rfl ?_
      refine mg_dup2_11 C dX5_map_34 rfl rfl ?_
      refine mg_iald C 7 rfl (hin8) dX5_map_35 ?_
      refine mg_tos (w := .int (nI q - 1)) (by rw [nI_clamp (by omega), h6]) ?_
      refine mg_iconst (v := 1) C dX5_map_36 (by decide) ?_
      refine mg_iadd C dX5_map_37 ?_
      refine mg_tos (w := .int (nI q)) (by rw [show nI q - 1 + 1 = nI q from Int32.sub_add_cancel _ _]) ?_
      refine mg_iast C 7 rfl (hin8) dX5_map_38 (ws' := (mw E ad g (ups a1 6 ((nI i) : Int32).toNatClampNeg (nI q)) v tl)) rfl ?_
      refine nxt i hiN f y q (fun q1 a2 hq1 hq1R hp2 ho2 hb2 h62 => ?_) (R + 1) q _ (by omega) hi (Nat.le_refl _) (fun j hj => ?_) (fun j h6' h7 h8 h11 => (ups_n h6').trans (ho j h6' h7 h8 h11)) hb ?_
      · refine mg_aload_n C dX5_map_79 rfl ?_
        refine mg_get C inG_X5 fX5_50 (ci := 5) rfl rfl 17 rfl rfl dX5_map_80 ?_
        refine mg_iload_n C dX5_map_83 rfl ?_
        refine mg_iald C 7 rfl (hin8) dX5_map_84 ?_
        refine mg_tos (w := .int (nI q1)) (by rw [nI_clamp (by omega), h62]) ?_
        refine mg_aload_n C dX5_map_85 rfl ?_
        refine mg_get C inG_X5 fX5_7 (ci := 5) rfl rfl 17 rfl rfl dX5_map_86 ?_
        refine mg_icmp_lt C 98 dX5_map_89 (by decide) (fun h89 => ?_) (fun h89 => ?_)
        · have hq1l : q1 < R := (by rw [d0] at h89; exact (nI_ltI (by omega) (by omega)).mp h89)
          have hin9 : vp_in (nI (i + 1)) 9 := vp_in_nI (by omega) (by decide)
          have hin64 : vp_in (nI (8 * i + q1)) 64 := vp_in_nI (by omega) (by decide)
          refine mg_aload_n C dX5_map_98 rfl ?_
          refine mg_get C inG_X5 fX5_56 (ci := 5) rfl rfl 17 rfl rfl dX5_map_99 ?_
          refine mg_iload_n C dX5_map_102 rfl ?_
          refine mg_iconst (v := 1) C dX5_map_103 (by decide) ?_
          refine mg_iadd C dX5_map_104 ?_
          refine mg_tos (w := .int (nI (i + 1))) (by rw [nI_1]) ?_
          refine mg_aload_n C dX5_map_105 rfl ?_
          refine mg_get C inG_X5 fX5_56 (ci := 5) rfl rfl 17 rfl rfl dX5_map_106 ?_
          refine mg_iload_n C dX5_map_109 rfl ?_
          refine mg_iald C 5 rfl ((vp_in_nI (by omega) (by decide))) dX5_map_110 ?_
          refine mg_aload_n C dX5_map_111 rfl ?_
          refine mg_get C inG_X5 fX5_47 (ci := 5) rfl rfl 17 rfl rfl dX5_map_112 ?_
          refine mg_bipush (v := 8) C dX5_map_115 (by decide) ?_
          refine mg_iload_n C dX5_map_117 rfl ?_
          refine mg_imul C dX5_map_118 ?_
          refine mg_aload_n C dX5_map_119 rfl ?_
          refine mg_get C inG_X5 fX5_50 (ci := 5) rfl rfl 17 rfl rfl dX5_map_120 ?_
          refine mg_iload_n C dX5_map_123 rfl ?_
          refine mg_iald C 7 rfl (hin8) dX5_map_124 ?_
          refine mg_tos (w := .int (nI q1)) (by rw [nI_clamp (by omega), h62]) ?_
          refine mg_iadd C dX5_map_125 ?_
          refine mg_tos (w := .int (nI (8 * i + q1))) (by rw [show (8 : Int32) = nI 8 from rfl, pk_mul, nI_add]) ?_
          refine mg_iald C 8 rfl (hin64) dX5_map_126 ?_
          refine mg_iadd C dX5_map_127 ?_
          refine mg_topi (fun zv128 ezv128 => ?_)
          refine mg_iast C 5 rfl (hin9) dX5_map_128 (ws' := (mw E ad g (ups a2 11 ((nI (i + 1)) : Int32).toNatClampNeg zv128) v tl)) rfl ?_
          refine mg_iload_n C dX5_map_129 rfl ?_
          refine mg_iconst (v := (-1)) C dX5_map_130 (by decide) ?_
          refine mg_icmp_eq C 146 dX5_map_131 (by decide) (fun h131 => ?_) (fun h131 => ?_)
          · refine mg_iload_n C dX5_map_146 rfl ?_
            refine mg_aload_n C dX5_map_147 rfl ?_
            refine mg_get C inG_X5 fX5_82 (ci := 5) rfl rfl 17 rfl rfl dX5_map_148 ?_
            refine mg_iconst (v := 1) C dX5_map_151 (by decide) ?_
            refine mg_isub C dX5_map_152 ?_
            refine mg_icmp_ne C 196 dX5_map_153 (by decide) (fun h153 => ?_) (fun h153 => ?_)
            · have hNi : ∀ j, j < i + 1 → ∃ r, r < R ∧ a2 6 j = nI r := (fun j hj => (Nat.lt_or_ge j i).elim (fun h => by rw [hp2 j h]; exact hN j h) (fun h => by have e : j = i := (by omega); rw [e]; exact ⟨q1, hq1l, h62⟩))
              have hin1 : i + 1 < n := (by have e1 : g 4 - 1 = nI (n - 1) := (by rw [d4, show (1 : Int32) = nI 1 from rfl]; exact pk_sub (by omega)); rw [e1] at h153; have e2 : i ≠ n - 1 := (fun e => h153 (by rw [e])); omega)
              have hin88 : vp_in (nI (i + 1)) 8 := vp_in_nI (by omega) (by decide)
              refine mg_iinc C dX5_map_196 rfl rfl ?_
              refine mg_lve (lv' := [(0, _), (1, _), (2, _)]) rfl ?_
              refine mg_lve (lv' := [(0, _), (1, _), (2, .int (nI (i + 1)))]) (by rw [nI_succ i]; rfl) ?_
              refine mg_aload_n C dX5_map_199 rfl ?_
              refine mg_get C inG_X5 fX5_50 (ci := 5) rfl rfl 17 rfl rfl dX5_map_200 ?_
              refine mg_iload_n C dX5_map_203 rfl ?_
              refine mg_iconst (v := (-1)) C dX5_map_204 (by decide) ?_
              refine mg_iast C 7 rfl (hin88) dX5_map_205 (ws' := (mw E ad g (ups (ups a2 11 (nI (i + 1)).toNatClampNeg zv128) 6 _ (-1)) v tl)) rfl ?_
              refine mg_goto C 25 dX5_map_206 (by decide) ?_
              refine desc hin1 _ _ (fun j hj => ?_) (fun j h6' h7 h8 h11 => (ups_n h6').trans ((ups_n h11).trans (ho2 j h6' h7 h8 h11))) hb2 ?_ (fun y3 a3 hp3 ho3 hb3 => ?_)
              · show ∃ r, r < R ∧ upd (a2 6) _ _ j = nI r
                rw [nI_clamp (by omega), pk_un (by omega)]; exact hNi j hj
              · show upd (a2 6) _ _ (i + 1) = _
                rw [nI_clamp (by omega)]; exact pk_us
              · have hp4 : ∀ j, j < i + 1 → a3 6 j = a2 6 j := (fun j hj => by rw [hp3 j hj]; show upd (a2 6) _ _ j = _; rw [nI_clamp (by omega), pk_un (by omega)])
                refine mg_lve (lv' := [(0, _), (1, _), (2, .int (nI i))]) (by rw [show nI (i + 1) + Int32.ofInt (-1) = nI i from pk_m1 i]) ?_
                exact ih (q1 + 1) _ _ (by omega) (by omega) (fun j hj => by rw [hp4 j (by omega)]; exact hp2 j hj) ho3 hb3 (by rw [nI_pred, hp4 i (by omega)]; exact h62)
            · refine mg_aload_n C dX5_map_156 rfl ?_
              refine mg_get C inG_X5 fX5_56 (ci := 5) rfl rfl 17 rfl rfl dX5_map_157 ?_
              refine mg_iload_n C dX5_map_160 rfl ?_
              refine mg_iconst (v := 1) C dX5_map_161 (by decide) ?_
              refine mg_iadd C dX5_map_162 ?_
              refine mg_tos (w := .int (nI (i + 1))) (by rw [nI_1]) ?_
              refine mg_iald C 5 rfl (hin9) dX5_map_163 ?_
              refine mg_istore_n C dX5_map_164 rfl ?_
              refine mg_lve (lv' := [(0, _), (1, _), (2, _)]) rfl ?_
              refine mg_iconst (v := 0) C dX5_map_165 (by decide) ?_
              refine mg_istore_n C dX5_map_166 rfl ?_
              refine mg_lve (lv' := [(0, _), (1, _), (2, _), (3, _)]) rfl ?_
              have hNi : ∀ j, j < i + 1 → ∃ r, r < R ∧ a2 6 j = nI r := (fun j hj => (Nat.lt_or_ge j i).elim (fun h => by rw [hp2 j h]; exact hN j h) (fun h => by have e : j = i := (by omega); rw [e]; exact ⟨q1, hq1l, h62⟩))
              have hin1 : i + 1 = n := (by have e1 : g 4 - 1 = nI (n - 1) := (by rw [d4, show (1 : Int32) = nI 1 from rfl]; exact pk_sub (by omega)); rw [e1] at h153; have e2 := (nI_eq (by omega) (by omega)).mp h153; omega)
              exact cpy i (a2 6) (fun j hj => hNi j (by omega)) (fun y3 a3 ho3 hb3 h63 => ih (q1 + 1) _ _ (by omega) (by omega) (fun j hj => by rw [h63]; exact hp2 j hj) ho3 hb3 (by rw [nI_pred, h63]; exact h62)) (n + 1) 0 _ _ (by omega) (by omega) (fun j h6' h7 h8 h11 => (ups_n h11).trans (ho2 j h6' h7 h8 h11)) hb2 rfl
          · refine mg_aload_n C dX5_map_134 rfl ?_
            refine mg_get C inG_X5 fX5_56 (ci := 5) rfl rfl 17 rfl rfl dX5_map_135 ?_
            refine mg_iload_n C dX5_map_138 rfl ?_
            refine mg_iconst (v := 1) C dX5_map_139 (by decide) ?_
            refine mg_iadd C dX5_map_140 ?_
            refine mg_tos (w := .int (nI (i + 1))) (by rw [nI_1]) ?_
            refine mg_iald C 5 rfl (hin9) dX5_map_141 ?_
            refine mg_iload_n C dX5_map_142 rfl ?_
            refine mg_icmp_ge C 25 dX5_map_143 (by decide) (fun h143 => ?_) (fun h143 => ?_)
            · exact ih (q1 + 1) _ _ (by omega) (by omega) hp2 (fun j h6' h7 h8 h11 => (ups_n h11).trans (ho2 j h6' h7 h8 h11)) hb2 (by rw [nI_pred]; exact h62)
            · refine mg_iload_n C dX5_map_146 rfl ?_
              refine mg_aload_n C dX5_map_147 rfl ?_
              refine mg_get C inG_X5 fX5_82 (ci := 5) rfl rfl 17 rfl rfl dX5_map_148 ?_
              refine mg_iconst (v := 1) C dX5_map_151 (by decide) ?_
              refine mg_isub C dX5_map_152 ?_
              refine mg_icmp_ne C 196 dX5_map_153 (by decide) (fun h153 => ?_) (fun h153 => ?_)
              · have hNi : ∀ j, j < i + 1 → ∃ r, r < R ∧ a2 6 j = nI r := (fun j hj => (Nat.lt_or_ge j i).elim (fun h => by rw [hp2 j h]; exact hN j h) (fun h => by have e : j = i := (by omega); rw [e]; exact ⟨q1, hq1l, h62⟩))
                have hin1 : i + 1 < n := (by have e1 : g 4 - 1 = nI (n - 1) := (by rw [d4, show (1 : Int32) = nI 1 from rfl]; exact pk_sub (by omega)); rw [e1] at h153; have e2 : i ≠ n - 1 := (fun e => h153 (by rw [e])); omega)
                have hin88 : vp_in (nI (i + 1)) 8 := vp_in_nI (by omega) (by decide)
                refine mg_iinc C dX5_map_196 rfl rfl ?_
                refine mg_lve (lv' := [(0, _), (1, _), (2, _)]) rfl ?_
                refine mg_lve (lv' := [(0, _), (1, _), (2, .int (nI (i + 1)))]) (by rw [nI_succ i]; rfl) ?_
                refine mg_aload_n C dX5_map_199 rfl ?_
                refine mg_get C inG_X5 fX5_50 (ci := 5) rfl rfl 17 rfl rfl dX5_map_200 ?_
                refine mg_iload_n C dX5_map_203 rfl ?_
                refine mg_iconst (v := (-1)) C dX5_map_204 (by decide) ?_
                refine mg_iast C 7 rfl (hin88) dX5_map_205 (ws' := (mw E ad g (ups (ups a2 11 (nI (i + 1)).toNatClampNeg zv128) 6 _ (-1)) v tl)) rfl ?_
                refine mg_goto C 25 dX5_map_206 (by decide) ?_
                refine desc hin1 _ _ (fun j hj => ?_) (fun j h6' h7 h8 h11 => (ups_n h6').trans ((ups_n h11).trans (ho2 j h6' h7 h8 h11))) hb2 ?_ (fun y3 a3 hp3 ho3 hb3 => ?_)
                · show ∃ r, r < R ∧ upd (a2 6) _ _ j = nI r
                  rw [nI_clamp (by omega), pk_un (by omega)]; exact hNi j hj
                · show upd (a2 6) _ _ (i + 1) = _
                  rw [nI_clamp (by omega)]; exact pk_us
                · have hp4 : ∀ j, j < i + 1 → a3 6 j = a2 6 j := (fun j hj => by rw [hp3 j hj]; show upd (a2 6) _ _ j = _; rw [nI_clamp (by omega), pk_un (by omega)])
                  refine mg_lve (lv' := [(0, _), (1, _), (2, .int (nI i))]) (by rw [show nI (i + 1) + Int32.ofInt (-1) = nI i from pk_m1 i]) ?_
                  exact ih (q1 + 1) _ _ (by omega) (by omega) (fun j hj => by rw [hp4 j (by omega)]; exact hp2 j hj) ho3 hb3 (by rw [nI_pred, hp4 i (by omega)]; exact h62)
              · refine mg_aload_n C dX5_map_156 rfl ?_
                refine mg_get C inG_X5 fX5_56 (ci := 5) rfl rfl 17 rfl rfl dX5_map_157 ?_
                refine mg_iload_n C dX5_map_160 rfl ?_
                refine mg_iconst (v := 1) C dX5_map_161 (by decide) ?_
                refine mg_iadd C dX5_map_162 ?_
                refine mg_tos (w := .int (nI (i + 1))) (by rw [nI_1]) ?_
                refine mg_iald C 5 rfl (hin9) dX5_map_163 ?_
                refine mg_istore_n C dX5_map_164 rfl ?_
                refine mg_lve (lv' := [(0, _), (1, _), (2, _)]) rfl ?_
                refine mg_iconst (v := 0) C dX5_map_165 (by decide) ?_
                refine mg_istore_n C dX5_map_166 rfl ?_
                refine mg_lve (lv' := [(0, _), (1, _), (2, _), (3, _)]) rfl ?_
                have hNi : ∀ j, j < i + 1 → ∃ r, r < R ∧ a2 6 j = nI r := (fun j hj => (Nat.lt_or_ge j i).elim (fun h => by rw [hp2 j h]; exact hN j h) (fun h => by have e : j = i := (by omega); rw [e]; exact ⟨q1, hq1l, h62⟩))
                have hin1 : i + 1 = n := (by have e1 : g 4 - 1 = nI (n - 1) := (by rw [d4, show (1 : Int32) = nI 1 from rfl]; exact pk_sub (by omega)); rw [e1] at h153; have e2 := (nI_eq (by omega) (by omega)).mp h153; omega)
                exact cpy i (a2 6) (fun j hj => hNi j (by omega)) (fun y3 a3 ho3 hb3 h63 => ih (q1 + 1) _ _ (by omega) (by omega) (fun j hj => by rw [h63]; exact hp2 j hj) ho3 hb3 (by rw [nI_pred, h63]; exact h62)) (n + 1) 0 _ _ (by omega) (by omega) (fun j h6' h7 h8 h11 => (ups_n h11).trans (ho2 j h6' h7 h8 h11)) hb2 rfl
        · refine mg_iinc C dX5_map_92 rfl rfl ?_
          refine mg_lve (lv' := [(0, _), (1, _), (2, _)]) rfl ?_
          refine mg_goto C 25 dX5_map_95 (by decide) ?_
          exact out y a2 hp2 ho2 hb2
      · show upd (a1 6) _ _ j = _
        rw [nI_clamp (by omega), pk_un (by omega)]; exact hp j hj
      · show upd (a1 6) _ _ i = _
        rw [nI_clamp (by omega)]; exact pk_us
  have lvl : ∀ (dd i : Nat), i + dd + 1 = n → ∀ (f : Nat → Int32), (∀ j, j < i → ∃ r, r < R ∧ f j = nI r) → (∀ (y : Int32) (a1 : Nat → Nat → Int32), (∀ j, j < i → a1 6 j = f j) → (∀ j, j ≠ 6 → j ≠ 7 → j ≠ 8 → j ≠ 11 → a1 j = a j) → (∀ q, q < 8 → ∃ r, r < 8 ∧ a1 8 q = nI r) → GG E X (mw E ad g a1 v tl) 0 0 25 [(0, .ref (ad 17)), (1, .int y), (2, .int (nI i + Int32.ofInt (-1)))] []) → ∀ (q : Nat) (y : Int32) (a1 : Nat → Nat → Int32), q ≤ R → (∀ j, j < i → a1 6 j = f j) → (∀ j, j ≠ 6 → j ≠ 7 → j ≠ 8 → j ≠ 11 → a1 j = a j) → (∀ q, q < 8 → ∃ r, r < 8 ∧ a1 8 q = nI r) → a1 6 i = nI q - 1 → GG E X (mw E ad g a1 v tl) 0 0 25 [(0, .ref (ad 17)), (1, .int y), (2, .int (nI i))] [] := by
    intro dd
    induction dd with
    | zero =>
      intro i hid f hN out q y a1 hq hp ho hb h6
      exact turn i (by omega) f hN out (fun hh => absurd hh (by omega)) (R + 1) q y a1 (by omega) hq hp ho hb h6
    | succ dd ihd =>
      intro i hid f hN out q y a1 hq hp ho hb h6
      exact turn i (by omega) f hN out (fun hh y2 a2 hN2 ho2 hb2 h62 out2 => ihd (i + 1) (by omega) (a2 6) hN2 out2 0 y2 a2 (by omega) (fun _ _ => rfl) ho2 hb2 h62) (R + 1) q y a1 (by omega) hq hp ho hb h6
  refine mg_aload_n C dX5_map_0 rfl ?_
  refine mg_callV C (ct_X5_hasTable E _ _ _ _ _) oX5_125 17 rfl rfl rfl rfl rfl dX5_map_1 (fun o1 w1 z1 => ?_)
  obtain ⟨rfl, rfl⟩ := z1
  refine mg_v ?_
  refine mg_if_ne C 10 dX5_map_4 (by decide) (fun h4 => ?_) (fun h4 => ?_)
  · refine mg_aload_n C dX5_map_10 rfl ?_
    refine mg_callV C (mx_X5_findCosts E _ _ _ _ _ R Cc T n m D ⟨⟨d0, d0a, d0b⟩, ⟨d1, d1a, d1b⟩, ⟨d2, d2a, d2b⟩, ⟨d4, d4a⟩, d5, ⟨d6, d6a⟩, dcm, dn0, dn1⟩) oX5_138 17 rfl rfl rfl rfl rfl dX5_map_11 (fun o11 w11 z11 => ?_)
    obtain ⟨a2, rfl, ho2, rfl⟩ := z11
    refine mg_v0 ?_
    refine mg_iconst (v := (-1)) C dX5_map_14 (by decide) ?_
    refine mg_istore_n C dX5_map_15 rfl ?_
    refine mg_lve (lv' := [(0, _), (1, _)]) rfl ?_
    refine mg_iconst (v := 0) C dX5_map_16 (by decide) ?_
    refine mg_istore_n C dX5_map_17 rfl ?_
    refine mg_lve (lv' := [(0, _), (1, _), (2, _)]) rfl ?_
    refine mg_aload_n C dX5_map_18 rfl ?_
    refine mg_get C inG_X5 fX5_50 (ci := 5) rfl rfl 17 rfl rfl dX5_map_19 ?_
    refine mg_iconst (v := 0) C dX5_map_22 (by decide) ?_
    refine mg_iconst (v := (-1)) C dX5_map_23 (by decide) ?_
    refine mg_iast C 7 rfl (vin00) dX5_map_24 (ws' := (mw E ad g (ups a2 6 (0 : Int32).toNatClampNeg (-1)) v tl)) rfl ?_
    have hn1 : 1 ≤ n := ((Nat.eq_zero_or_pos n).elim (fun e => absurd (by rw [ex, d4, e]; rfl) h4) (fun e => e))
    exact lvl (n - 1) 0 (by omega) (a2 6) (fun j hj => absurd hj (Nat.not_lt_zero j)) (fun y3 a3 _ ho3 hb3 => ext y3 a3 ho3 hb3) 0 _ _ (by omega) (fun j hj => absurd hj (Nat.not_lt_zero j)) (fun j h6' h7 h8 h11 => (ups_n h6').trans (ho2 j h7)) (fun q hq => by show ∃ r, r < 8 ∧ a2 8 q = nI r; rw [ho2 8 (by decide)]; exact hV.2.1 q hq) rfl
  · refine mg_bipush (v := (-3)) C dX5_map_7 (by decide) ?_
    exact mg_iret C hQ dX5_map_9 (⟨_, ad, g, a, v, rfl, Sh.rf, hV, rfl, rfl⟩)
