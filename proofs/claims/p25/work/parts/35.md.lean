set_option maxHeartbeats 400000 in
set_option maxRecDepth 100000 in
theorem mx_X5_rest (E : En) (ws : va_W) (x : Int32)  : Ct E mX5_rest 0 0 0 [.int x] ws (fun o w => ∃ r : Int32, o = some (.int r) ∧ w = ws) := by
  refine Ct.of (by decide) (Nat.le_of_ble_eq_true rfl) (fun X C hQ hin => ?_)
  have C : Cx E X cX5_rest 1 RX5 (some .int) 0 0 0 0 := C
  refine mg_iload_n C dX5_rest_0 rfl ?_
  refine mg_bipush (v := 97) C dX5_rest_1 (by decide) ?_
  refine mg_irem C dX5_rest_3 (by decide) ?_
  refine mg_bipush (v := 97) C dX5_rest_4 (by decide) ?_
  refine mg_iadd C dX5_rest_6 ?_
  refine mg_bipush (v := 97) C dX5_rest_7 (by decide) ?_
  refine mg_irem C dX5_rest_9 (by decide) ?_
  exact mg_iret C hQ dX5_rest_10 (⟨_, rfl, rfl⟩)
set_option maxHeartbeats 400000 in
set_option maxRecDepth 100000 in
theorem mv_mapped (E : En) (ad : Nat → Nat) (g : Nat → Int32) (a : Nat → Nat → Int32) (v : Nat → Int64) (tl : va_W) (i : Int32) (hV : MO g a) : Ct E mX5_mapped 1 0 0 [.ref (ad 17), .int i] (mw E ad g a v tl) (fun o w => ∃ (r : Int32) (ad1 : Nat → Nat) (g1 : Nat → Int32) (a1 : Nat → Nat → Int32) (v1 : Nat → Int64), o = some (.int r) ∧ Sh g a g1 a1 ∧ MO g1 a1 ∧ ad1 17 = ad 17 ∧ w = mw E ad1 g1 a1 v1 tl) := by
  refine Ct.of (by decide) (Nat.le_of_ble_eq_true rfl) (fun X C hQ hin => ?_)
  have C : Cx E X cX5_mapped 2 RX5 (some .int) 1 40 0 0 := C
  obtain ⟨R, Cc, T, n, m, D, F, ⟨⟨d0, d0a, d0b⟩, ⟨d1, d1a, d1b⟩, ⟨d2, d2a, d2b⟩, ⟨d4, d4a⟩, d5, ⟨d6, d6a⟩, dcm, dn0, dn1⟩, ⟨dF, dF1, dF2⟩, drow, dout⟩ := id hV.1
  refine mg_aload_n C dX5_mapped_0 rfl ?_
  refine mg_callV C (ct_X5_hasTable E _ _ _ _ _) oX5_125 17 rfl rfl rfl rfl rfl dX5_mapped_1 (fun o1 w1 z1 => ?_)
  obtain ⟨rfl, rfl⟩ := z1
  refine mg_v ?_
  refine mg_if_ne C 21 dX5_mapped_4 (by decide) (fun h4 => ?_) (fun h4 => ?_)
  · refine mg_iload_n C dX5_mapped_21 rfl ?_
    refine mg_iconst (v := 0) C dX5_mapped_22 (by decide) ?_
    refine mg_aload_n C dX5_mapped_23 rfl ?_
    refine mg_get C inG_X5 fX5_82 (ci := 5) rfl rfl 17 rfl rfl dX5_mapped_24 ?_
    refine mg_iconst (v := 1) C dX5_mapped_27 (by decide) ?_
    refine mg_isub C dX5_mapped_28 ?_
    refine mg_callS C (ct_X5_in E _ _ _ _) oX5_98 rfl rfl rfl dX5_mapped_29 (fun o29 w29 z29 => ?_)
    obtain ⟨rfl, rfl⟩ := z29
    refine mg_v ?_
    refine mg_if_eq C 44 dX5_mapped_32 (by decide) (fun h32 => ?_) (fun h32 => ?_)
    · refine mg_bipush (v := (-2)) C dX5_mapped_44 (by decide) ?_
      exact mg_iret C hQ dX5_mapped_46 (⟨_, ad, g, a, v, rfl, Sh.rf, hV, rfl, rfl⟩)
    · have hini : vp_in i 8 := (by obtain ⟨q, eq, hq⟩ := wi_in d4 (by omega) h32; rw [eq]; exact vp_in_nI (by omega) (by decide))
      refine mg_aload_n C dX5_mapped_35 rfl ?_
      refine mg_get C inG_X5 fX5_38 (ci := 5) rfl rfl 17 rfl rfl dX5_mapped_36 ?_
      refine mg_iload_n C dX5_mapped_39 rfl ?_
      refine mg_iald C 11 rfl (hini) dX5_mapped_40 ?_
      refine mg_goto C 46 dX5_mapped_41 (by decide) ?_
      exact mg_iret C hQ dX5_mapped_46 (⟨_, ad, g, a, v, rfl, Sh.rf, hV, rfl, rfl⟩)
  · refine mg_iload_n C dX5_mapped_7 rfl ?_
    refine mg_if_ge C 16 dX5_mapped_8 (by decide) (fun h8 => ?_) (fun h8 => ?_)
    · refine mg_bipush (v := (-3)) C dX5_mapped_16 (by decide) ?_
      refine mg_goto C 46 dX5_mapped_18 (by decide) ?_
      exact mg_iret C hQ dX5_mapped_46 (⟨_, ad, g, a, v, rfl, Sh.rf, hV, rfl, rfl⟩)
    · refine mg_bipush (v := (-2)) C dX5_mapped_11 (by decide) ?_
      refine mg_goto C 46 dX5_mapped_13 (by decide) ?_
      exact mg_iret C hQ dX5_mapped_46 (⟨_, ad, g, a, v, rfl, Sh.rf, hV, rfl, rfl⟩)
set_option maxHeartbeats 400000 in
set_option maxRecDepth 100000 in
theorem mv_seal (E : En) (ad : Nat → Nat) (g : Nat → Int32) (a : Nat → Nat → Int32) (v : Nat → Int64) (tl : va_W) (hV : MO g a) : Ct E mX5_seal 0 0 0 [.ref (ad 17)] (mw E ad g a v tl) (fun o w => ∃ (ad1 : Nat → Nat) (g1 : Nat → Int32) (a1 : Nat → Nat → Int32) (v1 : Nat → Int64), o = some (.int (1)) ∧ Sh (ug g 9 1) a g1 a1 ∧ MO g1 a1 ∧ ad1 17 = ad 17 ∧ w = mw E ad1 g1 a1 v1 tl) := by
  refine Ct.of (by decide) (Nat.le_of_ble_eq_true rfl) (fun X C hQ hin => ?_)
  have C : Cx E X cX5_seal 5 RX5 (some .int) 0 0 0 0 := C
  obtain ⟨R, Cc, T, n, m, D, F, ⟨⟨d0, d0a, d0b⟩, ⟨d1, d1a, d1b⟩, ⟨d2, d2a, d2b⟩, ⟨d4, d4a⟩, d5, ⟨d6, d6a⟩, dcm, dn0, dn1⟩, ⟨dF, dF1, dF2⟩, drow, dout⟩ := id hV.1
  have inner : ∀ (i : Nat), i < R → ∀ (a1 : Nat → Nat → Int32), (∀ (y z : Int32), GG E X (mw E ad g a1 v tl) 0 0 67 [(0, .ref (ad 17)), (1, .int (nI i)), (2, .int y), (3, .int z), (4, .int (nI Cc))] []) → ∀ (m1 j : Nat) (y z : Int32), Cc < j + m1 → j ≤ Cc → GG E X (mw E ad g a1 v tl) 0 0 17 [(0, .ref (ad 17)), (1, .int (nI i)), (2, .int y), (3, .int z), (4, .int (nI j))] [] := by
    intro i hiR a1 out
    intro m1
    induction m1 with
    | zero => intro j y z hm hi; omega
    | succ m1 ih =>
      intro j y z hm hi
      refine mg_iload C dX5_seal_17 rfl ?_
      refine mg_aload_n C dX5_seal_19 rfl ?_
      refine mg_get C inG_X5 fX5_13 (ci := 5) rfl rfl 17 rfl rfl dX5_seal_20 ?_
      refine mg_icmp_ge C 67 dX5_seal_23 (by decide) (fun h23 => ?_) (fun h23 => ?_)
      · have hge : j = Cc := (by rcases Nat.lt_or_ge j Cc with h | h; exact absurd (by rw [d1] at h23; exact h23) (nI_ge h (by omega)); omega)
        subst hge
        exact out y z
      · have hlt : j < Cc := (by rcases Nat.lt_or_ge j Cc with h | h; exact h; exact absurd (by rw [d1]; exact nI_le h (by omega)) h23)
        have hin9 : vp_in (24 * nI i + nI j) 192 := (by rw [pl_eq']; exact vp_in_nI (by omega) (by decide))
        refine mg_iload_n C dX5_seal_26 rfl ?_
        refine mg_aload_n C dX5_seal_27 rfl ?_
        refine mg_get C inG_X5 fX5_19 (ci := 5) rfl rfl 17 rfl rfl dX5_seal_28 ?_
        refine mg_bipush (v := 24) C dX5_seal_31 (by decide) ?_
        refine mg_iload_n C dX5_seal_33 rfl ?_
        refine mg_imul C dX5_seal_34 ?_
        refine mg_iload C dX5_seal_35 rfl ?_
        refine mg_iadd C dX5_seal_37 ?_
        refine mg_iald C 16 rfl (hin9) dX5_seal_38 ?_
        refine mg_iadd C dX5_seal_39 ?_
        refine mg_istore_n C dX5_seal_40 rfl ?_
        refine mg_lve (lv' := [(0, _), (1, _), (2, _), (3, _), (4, _)]) rfl ?_
        refine mg_iload_n C dX5_seal_41 rfl ?_
        refine mg_iload C dX5_seal_42 rfl ?_
        refine mg_iconst (v := 1) C dX5_seal_44 (by decide) ?_
        refine mg_iadd C dX5_seal_45 ?_
        refine mg_aload_n C dX5_seal_46 rfl ?_
        refine mg_get C inG_X5 fX5_19 (ci := 5) rfl rfl 17 rfl rfl dX5_seal_47 ?_
        refine mg_bipush (v := 24) C dX5_seal_50 (by decide) ?_
        refine mg_iload_n C dX5_seal_52 rfl ?_
        refine mg_imul C dX5_seal_53 ?_
        refine mg_iload C dX5_seal_54 rfl ?_
        refine mg_iadd C dX5_seal_56 ?_
        refine mg_iald C 16 rfl (hin9) dX5_seal_57 ?_
        refine mg_imul C dX5_seal_58 ?_
        refine mg_iadd C dX5_seal_59 ?_
        refine mg_istore_n C dX5_seal_60 rfl ?_
        refine mg_lve (lv' := [(0, _), (1, _), (2, _), (3, _), (4, _)]) rfl ?_
        refine mg_iinc C dX5_seal_61 rfl rfl ?_
        refine mg_lve (lv' := [(0, _), (1, _), (2, _), (3, _), (4, _)]) rfl ?_
        refine mg_goto C 17 dX5_seal_64 (by decide) ?_
        rw [show nI j + Int32.ofInt 1 = nI (j + 1) from (nI_succ j).symm]
        exact ih (j + 1) _ _ (by omega) (by omega)
  have loop : ∀ (m1 i : Nat) (a1 : Nat → Nat → Int32), R < i + m1 → i ≤ R → KM a a1 → GG E X (mw E ad g a1 v tl) 0 0 2 [(0, .ref (ad 17)), (1, .int (nI i))] [] := by
    intro m1
    induction m1 with
    | zero => intro i a1 hm hi; omega
    | succ m1 ih =>
      intro i a1 hm hi hk
      refine mg_iload_n C dX5_seal_2 rfl ?_
      refine mg_aload_n C dX5_seal_3 rfl ?_
      refine mg_get C inG_X5 fX5_7 (ci := 5) rfl rfl 17 rfl rfl dX5_seal_4 ?_
      refine mg_icmp_ge C 93 dX5_seal_7 (by decide) (fun h7 => ?_) (fun h7 => ?_)
      · refine mg_aload_n C dX5_seal_93 rfl ?_
        refine mg_iconst (v := 1) C dX5_seal_94 (by decide) ?_
        refine mg_put C inG_X5 fX5_95 (ci := 5) rfl rfl tyX5 tyX5_ok nmX5 rfl 17 rfl rfl rfl rfl dX5_seal_95 (ws' := (mw E ad (ug g 9 1) a1 v tl)) rfl ?_
        refine mg_iconst (v := 1) C dX5_seal_98 (by decide) ?_
        exact mg_iret C hQ dX5_seal_99 (⟨ad, ug g 9 1, a1, v, rfl, hk.sh, (hk.mo hV).g9, rfl, rfl⟩)
      · have hlt : i < R := (by rcases Nat.lt_or_ge i R with h | h; exact h; exact absurd (by rw [d0]; exact nI_le h (by omega)) h7)
        have hin8 : vp_in (nI i) 8 := vp_in_nI (by omega) (by decide)
        refine mg_iconst (v := 0) C dX5_seal_10 (by decide) ?_
        refine mg_istore_n C dX5_seal_11 rfl ?_
        refine mg_lve (lv' := [(0, _), (1, _), (2, _)]) rfl ?_
        refine mg_iconst (v := 0) C dX5_seal_12 (by decide) ?_
        refine mg_istore_n C dX5_seal_13 rfl ?_
        refine mg_lve (lv' := [(0, _), (1, _), (2, _), (3, _)]) rfl ?_
        refine mg_iconst (v := 0) C dX5_seal_14 (by decide) ?_
        refine mg_istore C dX5_seal_15 rfl ?_
        refine mg_lve (lv' := [(0, _), (1, _), (2, _), (3, _), (4, _)]) rfl ?_
        refine inner i hlt a1 (fun y1 z1 => ?_) (Cc + 1) 0 _ _ (by omega) (by omega)
        refine mg_aload_n C dX5_seal_67 rfl ?_
        refine mg_get C inG_X5 fX5_41 (ci := 5) rfl rfl 17 rfl rfl dX5_seal_68 ?_
        refine mg_iload_n C dX5_seal_71 rfl ?_
        refine mg_iload_n C dX5_seal_72 rfl ?_
        refine mg_bipush (v := 97) C dX5_seal_73 (by decide) ?_
        refine mg_irem C dX5_seal_75 (by decide) ?_
        refine mg_topi (fun zv76 ezv76 => ?_)
        refine mg_iast C 10 rfl (hin8) dX5_seal_76 (ws' := (mw E ad g (ups a1 9 ((nI i) : Int32).toNatClampNeg zv76) v tl)) rfl ?_
        refine mg_aload_n C dX5_seal_77 rfl ?_
        refine mg_get C inG_X5 fX5_44 (ci := 5) rfl rfl 17 rfl rfl dX5_seal_78 ?_
        refine mg_iload_n C dX5_seal_81 rfl ?_
        refine mg_iload_n C dX5_seal_82 rfl ?_
        refine mg_bipush (v := 97) C dX5_seal_83 (by decide) ?_
        refine mg_irem C dX5_seal_85 (by decide) ?_
        refine mg_topi (fun zv86 ezv86 => ?_)
        refine mg_iast C 9 rfl (hin8) dX5_seal_86 (ws' := (mw E ad g (ups (ups a1 9 ((nI i) : Int32).toNatClampNeg zv76) 10 ((nI i) : Int32).toNatClampNeg zv86) v tl)) rfl ?_
        refine mg_iinc C dX5_seal_87 rfl rfl ?_
        refine mg_lve (lv' := [(0, _), (1, _), (2, _), (3, _), (4, _)]) rfl ?_
        refine mg_goto C 2 dX5_seal_90 (by decide) ?_
        refine mg_lv (lv' := [(0, _), (1, _)]) (lv_tk 2 rfl) ?_
        rw [show nI i + Int32.ofInt 1 = nI (i + 1) from (nI_succ i).symm]
        exact ih (i + 1) _ (by omega) (by omega) (hk.tr ⟨rfl, rfl, rfl, rfl, rfl, rfl⟩)
  refine mg_iconst (v := 0) C dX5_seal_0 (by decide) ?_
  refine mg_istore_n C dX5_seal_1 rfl ?_
  refine mg_lve (lv' := [(0, _), (1, _)]) rfl ?_
  exact loop (R + 1) 0 a (by omega) (by omega) KM.rf
set_option maxHeartbeats 400000 in
set_option maxRecDepth 100000 in
theorem mv_look (E : En) (ad : Nat → Nat) (g : Nat → Int32) (a : Nat → Nat → Int32) (v : Nat → Int64) (tl : va_W) (hV : MO g a) : Ct E mX5_look 1 0 0 [.ref (ad 17)] (mw E ad g a v tl) (fun o w => ∃ (r : Int32) (ad1 : Nat → Nat) (g1 : Nat → Int32) (a1 : Nat → Nat → Int32) (v1 : Nat → Int64), o = some (.int r) ∧ Sh g a g1 a1 ∧ MO g1 a1 ∧ ad1 17 = ad 17 ∧ w = mw E ad1 g1 a1 v1 tl) := by
  refine Ct.of (by decide) (Nat.le_of_ble_eq_true rfl) (fun X C hQ hin => ?_)
  have C : Cx E X cX5_look 6 RX5 (some .int) 1 40 0 0 := C
  obtain ⟨R, Cc, T, n, m, D, F, ⟨⟨d0, d0a, d0b⟩, ⟨d1, d1a, d1b⟩, ⟨d2, d2a, d2b⟩, ⟨d4, d4a⟩, d5, ⟨d6, d6a⟩, dcm, dn0, dn1⟩, ⟨dF, dF1, dF2⟩, drow, dout⟩ := id hV.1
  have loop3 : ∀ (y z e f : Int32) (m1 i : Nat), Cc < i + m1 → i ≤ Cc → GG E X (mw E ad g a v tl) 0 0 123 [(0, .ref (ad 17)), (1, .int y), (2, .int z), (3, .int e), (4, .int f), (5, .int (nI i))] [] := by
    intro y z e f
    intro m1
    induction m1 with
    | zero => intro i hm hi; omega
    | succ m1 ih =>
      intro i hm hi
      refine mg_iload C dX5_look_123 rfl ?_
      refine mg_aload_n C dX5_look_125 rfl ?_
      refine mg_get C inG_X5 fX5_13 (ci := 5) rfl rfl 17 rfl rfl dX5_look_126 ?_
      refine mg_icmp_ge C 159 dX5_look_129 (by decide) (fun h129 => ?_) (fun h129 => ?_)
      · refine mg_bipush (v := 100) C dX5_look_159 (by decide) ?_
        exact mg_iret C hQ dX5_look_161 (⟨_, ad, g, a, v, rfl, Sh.rf, hV, rfl, rfl⟩)
      · have hlt : i < Cc := (by rcases Nat.lt_or_ge i Cc with h | h; exact h; exact absurd (by rw [d1]; exact nI_le h (by omega)) h129)
        refine mg_iload_n C dX5_look_132 rfl ?_
        refine mg_if_le C 159 dX5_look_133 (by decide) (fun h133 => ?_) (fun h133 => ?_)
        · refine mg_bipush (v := 100) C dX5_look_159 (by decide) ?_
          exact mg_iret C hQ dX5_look_161 (⟨_, ad, g, a, v, rfl, Sh.rf, hV, rfl, rfl⟩)
        · refine mg_iload C dX5_look_136 rfl ?_
          refine mg_iload_n C dX5_look_138 rfl ?_
          refine mg_iload C dX5_look_139 rfl ?_
          refine mg_iconst (v := 1) C dX5_look_141 (by decide) ?_
          refine mg_iadd C dX5_look_142 ?_
          refine mg_imul C dX5_look_143 ?_
          refine mg_bipush (v := 97) C dX5_look_144 (by decide) ?_
          refine mg_irem C dX5_look_146 (by decide) ?_
          refine mg_icmp_ne C 153 dX5_look_147 (by decide) (fun h147 => ?_) (fun h147 => ?_)
          · refine mg_iinc C dX5_look_153 rfl rfl ?_
            refine mg_lve (lv' := [(0, _), (1, _), (2, _), (3, _), (4, _), (5, _)]) rfl ?_
            refine mg_goto C 123 dX5_look_156 (by decide) ?_
            rw [show nI i + Int32.ofInt 1 = nI (i + 1) from (nI_succ i).symm]
            exact ih (i + 1) (by omega) (by omega)
          · refine mg_iload C dX5_look_150 rfl ?_
            exact mg_iret C hQ dX5_look_152 (⟨_, ad, g, a, v, rfl, Sh.rf, hV, rfl, rfl⟩)
  have loop2 : ∀ (m1 i : Nat) (y z : Int32), R < i + m1 → i ≤ R → GG E X (mw E ad g a v tl) 0 0 52 [(0, .ref (ad 17)), (1, .int y), (2, .int z), (3, .int (nI i))] [] := by
    intro m1
    induction m1 with
    | zero => intro i y z hm hi; omega
    | succ m1 ih =>
      intro i y z hm hi
      refine mg_iload_n C dX5_look_52 rfl ?_
      refine mg_aload_n C dX5_look_53 rfl ?_
      refine mg_get C inG_X5 fX5_7 (ci := 5) rfl rfl 17 rfl rfl dX5_look_54 ?_
      refine mg_icmp_ge C 98 dX5_look_57 (by decide) (fun h57 => ?_) (fun h57 => ?_)
      · refine mg_iload_n C dX5_look_98 rfl ?_
        refine mg_callS C (mx_X5_rest E _ _) oX5_144 rfl rfl rfl dX5_look_99 (fun o99 w99 z99 => ?_)
        obtain ⟨r99, rfl, rfl⟩ := z99
        refine mg_v ?_
        refine mg_istore_n C dX5_look_102 rfl ?_
        refine mg_lve (lv' := [(0, _), (1, _), (2, _), (3, _)]) rfl ?_
        refine mg_iload_n C dX5_look_103 rfl ?_
        refine mg_callS C (mx_X5_rest E _ _) oX5_144 rfl rfl rfl dX5_look_104 (fun o104 w104 z104 => ?_)
        obtain ⟨r104, rfl, rfl⟩ := z104
        refine mg_v ?_
        refine mg_istore C dX5_look_107 rfl ?_
        refine mg_lve (lv' := [(0, _), (1, _), (2, _), (3, _), (4, _)]) rfl ?_
        refine mg_iload_n C dX5_look_109 rfl ?_
        refine mg_if_ne C 120 dX5_look_110 (by decide) (fun h110 => ?_) (fun h110 => ?_)
        · refine mg_iconst (v := 0) C dX5_look_120 (by decide) ?_
          refine mg_istore C dX5_look_121 rfl ?_
          refine mg_lve (lv' := [(0, _), (1, _), (2, _), (3, _), (4, _), (5, _)]) rfl ?_
          exact loop3 _ _ _ _ (Cc + 1) 0 (by omega) (by omega)
        · refine mg_iload C dX5_look_113 rfl ?_
          refine mg_if_ne C 120 dX5_look_115 (by decide) (fun h115 => ?_) (fun h115 => ?_)
          · refine mg_iconst (v := 0) C dX5_look_120 (by decide) ?_
            refine mg_istore C dX5_look_121 rfl ?_
            refine mg_lve (lv' := [(0, _), (1, _), (2, _), (3, _), (4, _), (5, _)]) rfl ?_
            exact loop3 _ _ _ _ (Cc + 1) 0 (by omega) (by omega)
          · refine mg_iconst (v := (-1)) C dX5_look_118 (by decide) ?_
            exact mg_iret C hQ dX5_look_119 (⟨_, ad, g, a, v, rfl, Sh.rf, hV, rfl, rfl⟩)
      · have hlt : i < R := (by rcases Nat.lt_or_ge i R with h | h; exact h; exact absurd (by rw [d0]; exact nI_le h (by omega)) h57)
        have hin8 : vp_in (nI i) 8 := vp_in_nI (by omega) (by decide)
        refine mg_iload_n C dX5_look_60 rfl ?_
        refine mg_aload_n C dX5_look_61 rfl ?_
        refine mg_get C inG_X5 fX5_29 (ci := 5) rfl rfl 17 rfl rfl dX5_look_62 ?_
        refine mg_iload_n C dX5_look_65 rfl ?_
        refine mg_iald C 13 rfl (hin8) dX5_look_66 ?_
        refine mg_aload_n C dX5_look_67 rfl ?_
        refine mg_get C inG_X5 fX5_41 (ci := 5) rfl rfl 17 rfl rfl dX5_look_68 ?_
        refine mg_iload_n C dX5_look_71 rfl ?_
        refine mg_iald C 10 rfl (hin8) dX5_look_72 ?_
        refine mg_imul C dX5_look_73 ?_
        refine mg_isub C dX5_look_74 ?_
        refine mg_istore_n C dX5_look_75 rfl ?_
        refine mg_lve (lv' := [(0, _), (1, _), (2, _), (3, _)]) rfl ?_
        refine mg_iload_n C dX5_look_76 rfl ?_
        refine mg_aload_n C dX5_look_77 rfl ?_
        refine mg_get C inG_X5 fX5_29 (ci := 5) rfl rfl 17 rfl rfl dX5_look_78 ?_
        refine mg_iload_n C dX5_look_81 rfl ?_
        refine mg_iald C 13 rfl (hin8) dX5_look_82 ?_
        refine mg_aload_n C dX5_look_83 rfl ?_
        refine mg_get C inG_X5 fX5_44 (ci := 5) rfl rfl 17 rfl rfl dX5_look_84 ?_
        refine mg_iload_n C dX5_look_87 rfl ?_
        refine mg_iald C 9 rfl (hin8) dX5_look_88 ?_
        refine mg_imul C dX5_look_89 ?_
        refine mg_isub C dX5_look_90 ?_
        refine mg_istore_n C dX5_look_91 rfl ?_
        refine mg_lve (lv' := [(0, _), (1, _), (2, _), (3, _)]) rfl ?_
        refine mg_iinc C dX5_look_92 rfl rfl ?_
        refine mg_lve (lv' := [(0, _), (1, _), (2, _), (3, _)]) rfl ?_
        refine mg_goto C 52 dX5_look_95 (by decide) ?_
        rw [show nI i + Int32.ofInt 1 = nI (i + 1) from (nI_succ i).symm]
        exact ih (i + 1) _ _ (by omega) (by omega)
  have loop1 : ∀ (m1 i : Nat) (y z : Int32), Cc < i + m1 → i ≤ Cc → GG E X (mw E ad g a v tl) 0 0 16 [(0, .ref (ad 17)), (1, .int y), (2, .int z), (3, .int (nI i))] [] := by
    intro m1
    induction m1 with
    | zero => intro i y z hm hi; omega
    | succ m1 ih =>
      intro i y z hm hi
      refine mg_iload_n C dX5_look_16 rfl ?_
      refine mg_aload_n C dX5_look_17 rfl ?_
      refine mg_get C inG_X5 fX5_13 (ci := 5) rfl rfl 17 rfl rfl dX5_look_18 ?_
      refine mg_icmp_ge C 50 dX5_look_21 (by decide) (fun h21 => ?_) (fun h21 => ?_)
      · refine mg_iconst (v := 0) C dX5_look_50 (by decide) ?_
        refine mg_istore_n C dX5_look_51 rfl ?_
        refine mg_lve (lv' := [(0, _), (1, _), (2, _), (3, _)]) rfl ?_
        exact loop2 (R + 1) 0 _ _ (by omega) (by omega)
      · have hlt : i < Cc := (by rcases Nat.lt_or_ge i Cc with h | h; exact h; exact absurd (by rw [d1]; exact nI_le h (by omega)) h21)
        refine mg_iload_n C dX5_look_24 rfl ?_
        refine mg_aload_n C dX5_look_25 rfl ?_
        refine mg_iload_n C dX5_look_26 rfl ?_
        refine mg_callV C (mx_X5_sumOf E _ _ _ _ _ R i d0 d0b (by omega)) oX5_113 17 rfl rfl rfl rfl rfl dX5_look_27 (fun o27 w27 z27 => ?_)
        obtain ⟨r27, rfl, rfl⟩ := z27
        refine mg_v ?_
        refine mg_iadd C dX5_look_30 ?_
        refine mg_istore_n C dX5_look_31 rfl ?_
        refine mg_lve (lv' := [(0, _), (1, _), (2, _), (3, _)]) rfl ?_
        refine mg_iload_n C dX5_look_32 rfl ?_
        refine mg_iload_n C dX5_look_33 rfl ?_
        refine mg_iconst (v := 1) C dX5_look_34 (by decide) ?_
        refine mg_iadd C dX5_look_35 ?_
        refine mg_aload_n C dX5_look_36 rfl ?_
        refine mg_iload_n C dX5_look_37 rfl ?_
        refine mg_callV C (mx_X5_sumOf E _ _ _ _ _ R i d0 d0b (by omega)) oX5_113 17 rfl rfl rfl rfl rfl dX5_look_38 (fun o38 w38 z38 => ?_)
        obtain ⟨r38, rfl, rfl⟩ := z38
        refine mg_v ?_
        refine mg_imul C dX5_look_41 ?_
        refine mg_iadd C dX5_look_42 ?_
        refine mg_istore_n C dX5_look_43 rfl ?_
        refine mg_lve (lv' := [(0, _), (1, _), (2, _), (3, _)]) rfl ?_
        refine mg_iinc C dX5_look_44 rfl rfl ?_
        refine mg_lve (lv' := [(0, _), (1, _), (2, _), (3, _)]) rfl ?_
        refine mg_goto C 16 dX5_look_47 (by decide) ?_
        rw [show nI i + Int32.ofInt 1 = nI (i + 1) from (nI_succ i).symm]
        exact ih (i + 1) _ _ (by omega) (by omega)
  refine mg_aload_n C dX5_look_0 rfl ?_
  refine mg_get C inG_X5 fX5_95 (ci := 5) rfl rfl 17 rfl rfl dX5_look_1 ?_
  refine mg_if_ne C 10 dX5_look_4 (by decide) (fun h4 => ?_) (fun h4 => ?_)
  · refine mg_iconst (v := 0) C dX5_look_10 (by decide) ?_
    refine mg_istore_n C dX5_look_11 rfl ?_
    refine mg_lve (lv' := [(0, _), (1, _)]) rfl ?_
    refine mg_iconst (v := 0) C dX5_look_12 (by decide) ?_
    refine mg_istore_n C dX5_look_13 rfl ?_
    refine mg_lve (lv' := [(0, _), (1, _), (2, _)]) rfl ?_
    refine mg_iconst (v := 0) C dX5_look_14 (by decide) ?_
    refine mg_istore_n C dX5_look_15 rfl ?_
    refine mg_lve (lv' := [(0, _), (1, _), (2, _), (3, _)]) rfl ?_
    exact loop1 (Cc + 1) 0 _ _ (by omega) (by omega)
  · refine mg_bipush (v := (-3)) C dX5_look_7 (by decide) ?_
    exact mg_iret C hQ dX5_look_9 (⟨_, ad, g, a, v, rfl, Sh.rf, hV, rfl, rfl⟩)
set_option maxHeartbeats 400000 in
set_option maxRecDepth 100000 in
theorem mv_fade (E : En) (ad : Nat → Nat) (g : Nat → Int32) (a : Nat → Nat → Int32) (v : Nat → Int64) (tl : va_W) (k : Int32) (hV : MO g a) : Ct E mX5_fade 1 0 0 [.ref (ad 17), .int k] (mw E ad g a v tl) (fun o w => ∃ (r : Int32) (ad1 : Nat → Nat) (g1 : Nat → Int32) (a1 : Nat → Nat → Int32) (v1 : Nat → Int64), o = some (.int r) ∧ Sh g a g1 a1 ∧ MO g1 a1 ∧ ad1 17 = ad 17 ∧ w = mw E ad1 g1 a1 v1 tl) := by
  refine Ct.of (by decide) (Nat.le_of_ble_eq_true rfl) (fun X C hQ hin => ?_)
  have C : Cx E X cX5_fade 5 RX5 (some .int) 1 40 0 0 := C
  obtain ⟨R, Cc, T, n, m, D, F, ⟨⟨d0, d0a, d0b⟩, ⟨d1, d1a, d1b⟩, ⟨d2, d2a, d2b⟩, ⟨d4, d4a⟩, d5, ⟨d6, d6a⟩, dcm, dn0, dn1⟩, ⟨dF, dF1, dF2⟩, drow, dout⟩ := id hV.1
  have inner : ∀ (kk i : Nat), (∀ (y : Int32) (a1 : Nat → Nat → Int32), KM a a1 → GG E X (mw E ad g a1 v tl) 0 0 129 [(0, .ref (ad 17)), (1, .int (nI kk)), (2, .int y), (3, .int (nI i)), (4, .int (nI (24 * R)))] []) → ∀ (m1 x : Nat) (y : Int32) (a1 : Nat → Nat → Int32), 24 * R < x + m1 → x ≤ 24 * R → KM a a1 → GG E X (mw E ad g a1 v tl) 0 0 25 [(0, .ref (ad 17)), (1, .int (nI kk)), (2, .int y), (3, .int (nI i)), (4, .int (nI x))] [] := by
    intro kk i out
    intro m1
    induction m1 with
    | zero => intro x y a1 hm hi; omega
    | succ m1 ih =>
      intro x y a1 hm hi hk
      refine mg_iload C dX5_fade_25 rfl ?_
      refine mg_bipush (v := 24) C dX5_fade_27 (by decide) ?_
      refine mg_aload_n C dX5_fade_29 rfl ?_
      refine mg_get C inG_X5 fX5_7 (ci := 5) rfl rfl 17 rfl rfl dX5_fade_30 ?_
      refine mg_imul C dX5_fade_33 ?_
      refine mg_tos (w := .int (nI (24 * R))) (by rw [d0, show (24 : Int32) = nI 24 from rfl, pk_mul]) ?_
      refine mg_icmp_ge C 129 dX5_fade_34 (by decide) (fun h34 => ?_) (fun h34 => ?_)
      · have hge : x = 24 * R := (by rcases Nat.lt_or_ge x (24 * R) with h | h; exact absurd (h34) (nI_ge h (by omega)); omega)
        rw [hge]
        exact out y a1 hk
      · have hlt : x < (24 * R) := (by rcases Nat.lt_or_ge x (24 * R) with h | h; exact h; exact absurd (nI_le h (by omega)) h34)
        have hin9 : vp_in (nI x) 192 := vp_in_nI (by omega) (by decide)
        refine mg_iload C dX5_fade_37 rfl ?_
        refine mg_bipush (v := 24) C dX5_fade_39 (by decide) ?_
        refine mg_irem C dX5_fade_41 (by decide) ?_
        refine mg_aload_n C dX5_fade_42 rfl ?_
        refine mg_get C inG_X5 fX5_13 (ci := 5) rfl rfl 17 rfl rfl dX5_fade_43 ?_
        refine mg_icmp_ge C 123 dX5_fade_46 (by decide) (fun h46 => ?_) (fun h46 => ?_)
        · refine mg_iinc C dX5_fade_123 rfl rfl ?_
          refine mg_lve (lv' := [(0, _), (1, _), (2, _), (3, _), (4, _)]) rfl ?_
          refine mg_goto C 25 dX5_fade_126 (by decide) ?_
          rw [show nI x + Int32.ofInt 1 = nI (x + 1) from (nI_succ x).symm]
          exact ih (x + 1) _ _ (by omega) (by omega) (hk.tr ⟨rfl, rfl, rfl, rfl, rfl, rfl⟩)
        · refine mg_aload_n C dX5_fade_49 rfl ?_
          refine mg_get C inG_X5 fX5_23 (ci := 5) rfl rfl 17 rfl rfl dX5_fade_50 ?_
          refine mg_iload C dX5_fade_53 rfl ?_
          refine mg_iald C 15 rfl (hin9) dX5_fade_55 ?_
          refine mg_iconst (v := (-1)) C dX5_fade_56 (by decide) ?_
          refine mg_icmp_ne C 123 dX5_fade_57 (by decide) (fun h57 => ?_) (fun h57 => ?_)
          · refine mg_iinc C dX5_fade_123 rfl rfl ?_
            refine mg_lve (lv' := [(0, _), (1, _), (2, _), (3, _), (4, _)]) rfl ?_
            refine mg_goto C 25 dX5_fade_126 (by decide) ?_
            rw [show nI x + Int32.ofInt 1 = nI (x + 1) from (nI_succ x).symm]
            exact ih (x + 1) _ _ (by omega) (by omega) (hk.tr ⟨rfl, rfl, rfl, rfl, rfl, rfl⟩)
          · refine mg_aload_n C dX5_fade_60 rfl ?_
            refine mg_get C inG_X5 fX5_26 (ci := 5) rfl rfl 17 rfl rfl dX5_fade_61 ?_
            refine mg_iload C dX5_fade_64 rfl ?_
            refine mg_dup2_11 C dX5_fade_66 rfl rfl ?_
            refine mg_iald C 14 rfl (hin9) dX5_fade_67 ?_
            refine mg_iconst (v := 1) C dX5_fade_68 (by decide) ?_
            refine mg_iadd C dX5_fade_69 ?_
            refine mg_topi (fun zv70 ezv70 => ?_)
            refine mg_iast C 14 rfl (hin9) dX5_fade_70 (ws' := (mw E ad g (ups a1 2 ((nI x) : Int32).toNatClampNeg zv70) v tl)) rfl ?_
            refine mg_aload_n C dX5_fade_71 rfl ?_
            refine mg_get C inG_X5 fX5_19 (ci := 5) rfl rfl 17 rfl rfl dX5_fade_72 ?_
            refine mg_iload C dX5_fade_75 rfl ?_
            refine mg_iald C 16 rfl (hin9) dX5_fade_77 ?_
            refine mg_if_le C 123 dX5_fade_78 (by decide) (fun h78 => ?_) (fun h78 => ?_)
            · refine mg_iinc C dX5_fade_123 rfl rfl ?_
              refine mg_lve (lv' := [(0, _), (1, _), (2, _), (3, _), (4, _)]) rfl ?_
              refine mg_goto C 25 dX5_fade_126 (by decide) ?_
              rw [show nI x + Int32.ofInt 1 = nI (x + 1) from (nI_succ x).symm]
              exact ih (x + 1) _ _ (by omega) (by omega) (hk.tr ⟨rfl, rfl, rfl, rfl, rfl, rfl⟩)
            · refine mg_aload_n C dX5_fade_81 rfl ?_
              refine mg_get C inG_X5 fX5_26 (ci := 5) rfl rfl 17 rfl rfl dX5_fade_82 ?_
              refine mg_iload C dX5_fade_85 rfl ?_
              refine mg_iald C 14 rfl (hin9) dX5_fade_87 ?_
              refine mg_bipush (v := 16) C dX5_fade_88 (by decide) ?_
              refine mg_aload_n C dX5_fade_90 rfl ?_
              refine mg_get C inG_X5 fX5_19 (ci := 5) rfl rfl 17 rfl rfl dX5_fade_91 ?_
              refine mg_iload C dX5_fade_94 rfl ?_
              refine mg_iald C 16 rfl (hin9) dX5_fade_96 ?_
              refine mg_isub C dX5_fade_97 ?_
              refine mg_icmp_lt C 123 dX5_fade_98 (by decide) (fun h98 => ?_) (fun h98 => ?_)
              · refine mg_iinc C dX5_fade_123 rfl rfl ?_
                refine mg_lve (lv' := [(0, _), (1, _), (2, _), (3, _), (4, _)]) rfl ?_
                refine mg_goto C 25 dX5_fade_126 (by decide) ?_
                rw [show nI x + Int32.ofInt 1 = nI (x + 1) from (nI_succ x).symm]
                exact ih (x + 1) _ _ (by omega) (by omega) (hk.tr ⟨rfl, rfl, rfl, rfl, rfl, rfl⟩)
              · refine mg_aload_n C dX5_fade_101 rfl ?_
                refine mg_get C inG_X5 fX5_19 (ci := 5) rfl rfl 17 rfl rfl dX5_fade_102 ?_
                refine mg_iload C dX5_fade_105 rfl ?_
                refine mg_dup2_11 C dX5_fade_107 rfl rfl ?_
                refine mg_iald C 16 rfl (hin9) dX5_fade_108 ?_
                refine mg_iconst (v := 1) C dX5_fade_109 (by decide) ?_
                refine mg_isub C dX5_fade_110 ?_
                refine mg_topi (fun zv111 ezv111 => ?_)
                refine mg_iast C 16 rfl (hin9) dX5_fade_111 (ws' := (mw E ad g (ups (ups a1 2 ((nI x) : Int32).toNatClampNeg zv70) 0 ((nI x) : Int32).toNatClampNeg zv111) v tl)) rfl ?_
                refine mg_aload_n C dX5_fade_112 rfl ?_
                refine mg_get C inG_X5 fX5_26 (ci := 5) rfl rfl 17 rfl rfl dX5_fade_113 ?_
                refine mg_iload C dX5_fade_116 rfl ?_
                refine mg_iconst (v := 0) C dX5_fade_118 (by decide) ?_
                refine mg_iast C 14 rfl (hin9) dX5_fade_119 (ws' := (mw E ad g (ups (ups (ups a1 2 ((nI x) : Int32).toNatClampNeg zv70) 0 ((nI x) : Int32).toNatClampNeg zv111) 2 ((nI x) : Int32).toNatClampNeg 0) v tl)) rfl ?_
                refine mg_iinc C dX5_fade_120 rfl rfl ?_
                refine mg_lve (lv' := [(0, _), (1, _), (2, _), (3, _), (4, _)]) rfl ?_
                refine mg_iinc C dX5_fade_123 rfl rfl ?_
                refine mg_lve (lv' := [(0, _), (1, _), (2, _), (3, _), (4, _)]) rfl ?_
                refine mg_goto C 25 dX5_fade_126 (by decide) ?_
                rw [show nI x + Int32.ofInt 1 = nI (x + 1) from (nI_succ x).symm]
                exact ih (x + 1) _ _ (by omega) (by omega) (hk.tr ⟨rfl, rfl, rfl, rfl, rfl, rfl⟩)
  have loop : ∀ (kk : Nat), kk < 1000 → ∀ (m1 i : Nat) (y : Int32) (a1 : Nat → Nat → Int32), kk < i + m1 → i ≤ kk → KM a a1 → GG E X (mw E ad g a1 v tl) 0 0 17 [(0, .ref (ad 17)), (1, .int (nI kk)), (2, .int y), (3, .int (nI i))] [] := by
    intro kk hkk
    intro m1
    induction m1 with
    | zero => intro i y a1 hm hi; omega
    | succ m1 ih =>
      intro i y a1 hm hi hk
      refine mg_iload_n C dX5_fade_17 rfl ?_
      refine mg_iload_n C dX5_fade_18 rfl ?_
      refine mg_icmp_ge C 135 dX5_fade_19 (by decide) (fun h19 => ?_) (fun h19 => ?_)
      · refine mg_iload_n C dX5_fade_135 rfl ?_
        exact mg_iret C hQ dX5_fade_136 (⟨_, ad, g, a1, v, rfl, hk.sh, hk.mo hV, rfl, rfl⟩)
      · have hlt : i < kk := (by rcases Nat.lt_or_ge i kk with h | h; exact h; exact absurd (nI_le h (by omega)) h19)
        refine mg_iconst (v := 0) C dX5_fade_22 (by decide) ?_
        refine mg_istore C dX5_fade_23 rfl ?_
        refine mg_lve (lv' := [(0, _), (1, _), (2, _), (3, _), (4, _)]) rfl ?_
        refine inner kk i (fun y1 a3 hk3 => ?_) (24 * R + 1) 0 y a1 (by omega) (by omega) hk
        refine mg_iinc C dX5_fade_129 rfl rfl ?_
        refine mg_goto C 17 dX5_fade_132 (by decide) ?_
        refine mg_lv (lv' := [(0, _), (1, _), (2, _), (3, _)]) (lv_tk 4 rfl) ?_
        rw [show nI i + Int32.ofInt 1 = nI (i + 1) from (nI_succ i).symm]
        exact ih (i + 1) y1 a3 (by omega) (by omega) hk3
  refine mg_iload_n C dX5_fade_0 rfl ?_
  refine mg_iconst (v := 1) C dX5_fade_1 (by decide) ?_
  refine mg_bipush (v := 100) C dX5_fade_2 (by decide) ?_
  refine mg_callS C (ct_X5_in E _ _ _ _) oX5_98 rfl rfl rfl dX5_fade_4 (fun o4 w4 z4 => ?_)
  obtain ⟨rfl, rfl⟩ := z4
  refine mg_v ?_
  refine mg_if_ne C 13 dX5_fade_7 (by decide) (fun h7 => ?_) (fun h7 => ?_)
  · refine mg_iconst (v := 0) C dX5_fade_13 (by decide) ?_
    refine mg_istore_n C dX5_fade_14 rfl ?_
    refine mg_lve (lv' := [(0, _), (1, _), (2, _)]) rfl ?_
    refine mg_iconst (v := 0) C dX5_fade_15 (by decide) ?_
    refine mg_istore_n C dX5_fade_16 rfl ?_
    refine mg_lve (lv' := [(0, _), (1, _), (2, _), (3, _)]) rfl ?_
    obtain ⟨kk, ek, h1, h2⟩ := wi_mk (P := 1) (Q := 100) rfl rfl h7
    subst ek
    exact loop kk (by omega) (kk + 1) 0 _ a (by omega) (by omega) KM.rf
  · refine mg_bipush (v := (-2)) C dX5_fade_10 (by decide) ?_
    exact mg_iret C hQ dX5_fade_12 (⟨_, ad, g, a, v, rfl, Sh.rf, hV, rfl, rfl⟩)
set_option maxHeartbeats 400000 in
set_option maxRecDepth 100000 in
theorem mv_pulse (E : En) (ad : Nat → Nat) (g : Nat → Int32) (a : Nat → Nat → Int32) (v : Nat → Int64) (tl : va_W) (r c y : Int32) (hV : MO g a) : Ct E mX5_pulse 2 0 0 [.ref (ad 17), .int r, .int c, .int y] (mw E ad g a v tl) (fun o w => ∃ (r : Int32) (ad1 : Nat → Nat) (g1 : Nat → Int32) (a1 : Nat → Nat → Int32) (v1 : Nat → Int64), o = some (.int r) ∧ Sh g a g1 a1 ∧ MO g1 a1 ∧ ad1 17 = ad 17 ∧ w = mw E ad1 g1 a1 v1 tl) := by
  refine Ct.of (by decide) (Nat.le_of_ble_eq_true rfl) (fun X C hQ hin => ?_)
  have C : Cx E X cX5_pulse 7 RX5 (some .int) 2 80 0 0 := C
  obtain ⟨R, Cc, T, n, m, D, F, ⟨⟨d0, d0a, d0b⟩, ⟨d1, d1a, d1b⟩, ⟨d2, d2a, d2b⟩, ⟨d4, d4a⟩, d5, ⟨d6, d6a⟩, dcm, dn0, dn1⟩, ⟨dF, dF1, dF2⟩, drow, dout⟩ := id hV.1
  have loop : ∀ (r c y z : Int32), vp_in z 192 → ∀ (m1 i : Nat) (a1 : Nat → Nat → Int32), 40 < i + m1 → i ≤ 40 → KM a a1 → GG E X (mw E ad g a1 v tl) 0 0 49 [(0, .ref (ad 17)), (1, .int r), (2, .int c), (3, .int y), (4, .int z), (5, .int (nI i))] [] := by
    intro r c y z hz
    intro m1
    induction m1 with
    | zero => intro i a1 hm hi; omega
    | succ m1 ih =>
      intro i a1 hm hi hk
      refine mg_aload_n C dX5_pulse_49 rfl ?_
      refine mg_get C inG_X5 fX5_19 (ci := 5) rfl rfl 17 rfl rfl dX5_pulse_50 ?_
      refine mg_iload C dX5_pulse_53 rfl ?_
      refine mg_iald C 16 rfl (hz) dX5_pulse_55 ?_
      refine mg_iload_n C dX5_pulse_56 rfl ?_
      refine mg_icmp_eq C 139 dX5_pulse_57 (by decide) (fun h57 => ?_) (fun h57 => ?_)
      · refine mg_aload_n C dX5_pulse_139 rfl ?_
        refine mg_get C inG_X5 fX5_26 (ci := 5) rfl rfl 17 rfl rfl dX5_pulse_140 ?_
        refine mg_iload C dX5_pulse_143 rfl ?_
        refine mg_iload C dX5_pulse_145 rfl ?_
        refine mg_if_le C 154 dX5_pulse_147 (by decide) (fun h147 => ?_) (fun h147 => ?_)
        · refine mg_aload_n C dX5_pulse_154 rfl ?_
          refine mg_get C inG_X5 fX5_26 (ci := 5) rfl rfl 17 rfl rfl dX5_pulse_155 ?_
          refine mg_iload C dX5_pulse_158 rfl ?_
          refine mg_iald C 14 rfl (hz) dX5_pulse_160 ?_
          refine mg_topi (fun zv161 ezv161 => ?_)
          refine mg_iast C 14 rfl (hz) dX5_pulse_161 (ws' := (mw E ad g (ups a1 2 (z : Int32).toNatClampNeg zv161) v tl)) rfl ?_
          refine mg_iload C dX5_pulse_162 rfl ?_
          exact mg_iret C hQ dX5_pulse_164 (⟨_, ad, g, (ups a1 2 (z : Int32).toNatClampNeg zv161), v, rfl, (hk.tr ⟨rfl, rfl, rfl, rfl, rfl, rfl⟩).sh, (hk.tr ⟨rfl, rfl, rfl, rfl, rfl, rfl⟩).mo hV, rfl, rfl⟩)
        · refine mg_iconst (v := 0) C dX5_pulse_150 (by decide) ?_
          refine mg_goto C 161 dX5_pulse_151 (by decide) ?_
          refine mg_iast C 14 rfl (hz) dX5_pulse_161 (ws' := (mw E ad g (ups a1 2 (z : Int32).toNatClampNeg 0) v tl)) rfl ?_
          refine mg_iload C dX5_pulse_162 rfl ?_
          exact mg_iret C hQ dX5_pulse_164 (⟨_, ad, g, (ups a1 2 (z : Int32).toNatClampNeg 0), v, rfl, (hk.tr ⟨rfl, rfl, rfl, rfl, rfl, rfl⟩).sh, (hk.tr ⟨rfl, rfl, rfl, rfl, rfl, rfl⟩).mo hV, rfl, rfl⟩)
      · refine mg_iload C dX5_pulse_60 rfl ?_
        refine mg_bipush (v := 40) C dX5_pulse_62 (by decide) ?_
        refine mg_icmp_ge C 139 dX5_pulse_64 (by decide) (fun h64 => ?_) (fun h64 => ?_)
        · refine mg_aload_n C dX5_pulse_139 rfl ?_
          refine mg_get C inG_X5 fX5_26 (ci := 5) rfl rfl 17 rfl rfl dX5_pulse_140 ?_
          refine mg_iload C dX5_pulse_143 rfl ?_
          refine mg_iload C dX5_pulse_145 rfl ?_
          refine mg_if_le C 154 dX5_pulse_147 (by decide) (fun h147 => ?_) (fun h147 => ?_)
          · refine mg_aload_n C dX5_pulse_154 rfl ?_
            refine mg_get C inG_X5 fX5_26 (ci := 5) rfl rfl 17 rfl rfl dX5_pulse_155 ?_
            refine mg_iload C dX5_pulse_158 rfl ?_
            refine mg_iald C 14 rfl (hz) dX5_pulse_160 ?_
            refine mg_topi (fun zv161 ezv161 => ?_)
            refine mg_iast C 14 rfl (hz) dX5_pulse_161 (ws' := (mw E ad g (ups a1 2 (z : Int32).toNatClampNeg zv161) v tl)) rfl ?_
            refine mg_iload C dX5_pulse_162 rfl ?_
            exact mg_iret C hQ dX5_pulse_164 (⟨_, ad, g, (ups a1 2 (z : Int32).toNatClampNeg zv161), v, rfl, (hk.tr ⟨rfl, rfl, rfl, rfl, rfl, rfl⟩).sh, (hk.tr ⟨rfl, rfl, rfl, rfl, rfl, rfl⟩).mo hV, rfl, rfl⟩)
          · refine mg_iconst (v := 0) C dX5_pulse_150 (by decide) ?_
            refine mg_goto C 161 dX5_pulse_151 (by decide) ?_
            refine mg_iast C 14 rfl (hz) dX5_pulse_161 (ws' := (mw E ad g (ups a1 2 (z : Int32).toNatClampNeg 0) v tl)) rfl ?_
            refine mg_iload C dX5_pulse_162 rfl ?_
            exact mg_iret C hQ dX5_pulse_164 (⟨_, ad, g, (ups a1 2 (z : Int32).toNatClampNeg 0), v, rfl, (hk.tr ⟨rfl, rfl, rfl, rfl, rfl, rfl⟩).sh, (hk.tr ⟨rfl, rfl, rfl, rfl, rfl, rfl⟩).mo hV, rfl, rfl⟩)
        · have hlt : i < 40 := (by rcases Nat.lt_or_ge i 40 with h | h; exact h; exact absurd (show (40 : Int32) ≤ nI i from nI_le (a := 40) h (by omega)) h64)
          refine mg_aload_n C dX5_pulse_67 rfl ?_
          refine mg_get C inG_X5 fX5_19 (ci := 5) rfl rfl 17 rfl rfl dX5_pulse_68 ?_
          refine mg_iload C dX5_pulse_71 rfl ?_
          refine mg_iald C 16 rfl (hz) dX5_pulse_73 ?_
          refine mg_iconst (v := 2) C dX5_pulse_74 (by decide) ?_
          refine mg_iadd C dX5_pulse_75 ?_
          refine mg_aload_n C dX5_pulse_76 rfl ?_
          refine mg_get C inG_X5 fX5_16 (ci := 5) rfl rfl 17 rfl rfl dX5_pulse_77 ?_
          refine mg_icmp_le C 90 dX5_pulse_80 (by decide) (fun h80 => ?_) (fun h80 => ?_)
          · refine mg_aload_n C dX5_pulse_90 rfl ?_
            refine mg_get C inG_X5 fX5_19 (ci := 5) rfl rfl 17 rfl rfl dX5_pulse_91 ?_
            refine mg_iload C dX5_pulse_94 rfl ?_
            refine mg_iald C 16 rfl (hz) dX5_pulse_96 ?_
            refine mg_iconst (v := 2) C dX5_pulse_97 (by decide) ?_
            refine mg_iadd C dX5_pulse_98 ?_
            refine mg_istore C dX5_pulse_99 rfl ?_
            refine mg_lve (lv' := [(0, _), (1, _), (2, _), (3, _), (4, _), (5, _), (6, _)]) rfl ?_
            refine mg_aload_n C dX5_pulse_101 rfl ?_
            refine mg_get C inG_X5 fX5_19 (ci := 5) rfl rfl 17 rfl rfl dX5_pulse_102 ?_
            refine mg_iload C dX5_pulse_105 rfl ?_
            refine mg_aload_n C dX5_pulse_107 rfl ?_
            refine mg_get C inG_X5 fX5_19 (ci := 5) rfl rfl 17 rfl rfl dX5_pulse_108 ?_
            refine mg_iload C dX5_pulse_111 rfl ?_
            refine mg_iald C 16 rfl (hz) dX5_pulse_113 ?_
            refine mg_iload_n C dX5_pulse_114 rfl ?_
            refine mg_icmp_ge C 123 dX5_pulse_115 (by decide) (fun h115 => ?_) (fun h115 => ?_)
            · refine mg_aload_n C dX5_pulse_123 rfl ?_
              refine mg_get C inG_X5 fX5_19 (ci := 5) rfl rfl 17 rfl rfl dX5_pulse_124 ?_
              refine mg_iload C dX5_pulse_127 rfl ?_
              refine mg_iald C 16 rfl (hz) dX5_pulse_129 ?_
              refine mg_iconst (v := 1) C dX5_pulse_130 (by decide) ?_
              refine mg_isub C dX5_pulse_131 ?_
              refine mg_topi (fun zv132 ezv132 => ?_)
              refine mg_iast C 16 rfl (hz) dX5_pulse_132 (ws' := (mw E ad g (ups a1 0 (z : Int32).toNatClampNeg zv132) v tl)) rfl ?_
              refine mg_iinc C dX5_pulse_133 rfl rfl ?_
              refine mg_lve (lv' := [(0, _), (1, _), (2, _), (3, _), (4, _), (5, _), (6, _)]) rfl ?_
              refine mg_goto C 49 dX5_pulse_136 (by decide) ?_
              refine mg_lv (lv' := [(0, _), (1, _), (2, _), (3, _), (4, _), (5, _)]) (lv_tk 6 rfl) ?_
              rw [show nI i + Int32.ofInt 1 = nI (i + 1) from (nI_succ i).symm]
              exact ih (i + 1) _ (by omega) (by omega) (hk.tr ⟨rfl, rfl, rfl, rfl, rfl, rfl⟩)
            · refine mg_iload C dX5_pulse_118 rfl ?_
              refine mg_goto C 132 dX5_pulse_120 (by decide) ?_
              refine mg_topi (fun zv132 ezv132 => ?_)
              refine mg_iast C 16 rfl (hz) dX5_pulse_132 (ws' := (mw E ad g (ups a1 0 (z : Int32).toNatClampNeg zv132) v tl)) rfl ?_
              refine mg_iinc C dX5_pulse_133 rfl rfl ?_
              refine mg_lve (lv' := [(0, _), (1, _), (2, _), (3, _), (4, _), (5, _), (6, _)]) rfl ?_
              refine mg_goto C 49 dX5_pulse_136 (by decide) ?_
              refine mg_lv (lv' := [(0, _), (1, _), (2, _), (3, _), (4, _), (5, _)]) (lv_tk 6 rfl) ?_
              rw [show nI i + Int32.ofInt 1 = nI (i + 1) from (nI_succ i).symm]
              exact ih (i + 1) _ (by omega) (by omega) (hk.tr ⟨rfl, rfl, rfl, rfl, rfl, rfl⟩)
          · refine mg_aload_n C dX5_pulse_83 rfl ?_
            refine mg_get C inG_X5 fX5_16 (ci := 5) rfl rfl 17 rfl rfl dX5_pulse_84 ?_
            refine mg_goto C 99 dX5_pulse_87 (by decide) ?_
            refine mg_istore C dX5_pulse_99 rfl ?_
            refine mg_lve (lv' := [(0, _), (1, _), (2, _), (3, _), (4, _), (5, _), (6, _)]) rfl ?_
            refine mg_aload_n C dX5_pulse_101 rfl ?_
            refine mg_get C inG_X5 fX5_19 (ci := 5) rfl rfl 17 rfl rfl dX5_pulse_102 ?_
            refine mg_iload C dX5_pulse_105 rfl ?_
            refine mg_aload_n C dX5_pulse_107 rfl ?_
            refine mg_get C inG_X5 fX5_19 (ci := 5) rfl rfl 17 rfl rfl dX5_pulse_108 ?_
            refine mg_iload C dX5_pulse_111 rfl ?_
            refine mg_iald C 16 rfl (hz) dX5_pulse_113 ?_
            refine mg_iload_n C dX5_pulse_114 rfl ?_
            refine mg_icmp_ge C 123 dX5_pulse_115 (by decide) (fun h115 => ?_) (fun h115 => ?_)
            · refine mg_aload_n C dX5_pulse_123 rfl ?_
              refine mg_get C inG_X5 fX5_19 (ci := 5) rfl rfl 17 rfl rfl dX5_pulse_124 ?_
              refine mg_iload C dX5_pulse_127 rfl ?_
              refine mg_iald C 16 rfl (hz) dX5_pulse_129 ?_
              refine mg_iconst (v := 1) C dX5_pulse_130 (by decide) ?_
              refine mg_isub C dX5_pulse_131 ?_
              refine mg_topi (fun zv132 ezv132 => ?_)
              refine mg_iast C 16 rfl (hz) dX5_pulse_132 (ws' := (mw E ad g (ups a1 0 (z : Int32).toNatClampNeg zv132) v tl)) rfl ?_
              refine mg_iinc C dX5_pulse_133 rfl rfl ?_
              refine mg_lve (lv' := [(0, _), (1, _), (2, _), (3, _), (4, _), (5, _), (6, _)]) rfl ?_
              refine mg_goto C 49 dX5_pulse_136 (by decide) ?_
              refine mg_lv (lv' := [(0, _), (1, _), (2, _), (3, _), (4, _), (5, _)]) (lv_tk 6 rfl) ?_
              rw [show nI i + Int32.ofInt 1 = nI (i + 1) from (nI_succ i).symm]
              exact ih (i + 1) _ (by omega) (by omega) (hk.tr ⟨rfl, rfl, rfl, rfl, rfl, rfl⟩)
            · refine mg_iload C dX5_pulse_118 rfl ?_
              refine mg_goto C 132 dX5_pulse_120 (by decide) ?_
              refine mg_topi (fun zv132 ezv132 => ?_)
              refine mg_iast C 16 rfl (hz) dX5_pulse_132 (ws' := (mw E ad g (ups a1 0 (z : Int32).toNatClampNeg zv132) v tl)) rfl ?_
              refine mg_iinc C dX5_pulse_133 rfl rfl ?_
              refine mg_lve (lv' := [(0, _), (1, _), (2, _), (3, _), (4, _), (5, _), (6, _)]) rfl ?_
              refine mg_goto C 49 dX5_pulse_136 (by decide) ?_
              refine mg_lv (lv' := [(0, _), (1, _), (2, _), (3, _), (4, _), (5, _)]) (lv_tk 6 rfl) ?_
              rw [show nI i + Int32.ofInt 1 = nI (i + 1) from (nI_succ i).symm]
              exact ih (i + 1) _ (by omega) (by omega) (hk.tr ⟨rfl, rfl, rfl, rfl, rfl, rfl⟩)
  refine mg_aload_n C dX5_pulse_0 rfl ?_
  refine mg_iload_n C dX5_pulse_1 rfl ?_
  refine mg_iload_n C dX5_pulse_2 rfl ?_
  refine mg_callV C (ct_X5_isCell E _ _ _ _ _ _ _) oX5_102 17 rfl rfl rfl rfl rfl dX5_pulse_3 (fun o3 w3 z3 => ?_)
  obtain ⟨rfl, rfl⟩ := z3
  refine mg_v ?_
  refine mg_if_eq C 21 dX5_pulse_6 (by decide) (fun h6 => ?_) (fun h6 => ?_)
  · refine mg_bipush (v := (-2)) C dX5_pulse_21 (by decide) ?_
    exact mg_iret C hQ dX5_pulse_23 (⟨_, ad, g, a, v, rfl, Sh.rf, hV, rfl, rfl⟩)
  · refine mg_iload_n C dX5_pulse_9 rfl ?_
    refine mg_iconst (v := 0) C dX5_pulse_10 (by decide) ?_
    refine mg_aload_n C dX5_pulse_11 rfl ?_
    refine mg_get C inG_X5 fX5_16 (ci := 5) rfl rfl 17 rfl rfl dX5_pulse_12 ?_
    refine mg_callS C (ct_X5_in E _ _ _ _) oX5_98 rfl rfl rfl dX5_pulse_15 (fun o15 w15 z15 => ?_)
    obtain ⟨rfl, rfl⟩ := z15
    refine mg_v ?_
    refine mg_if_ne C 24 dX5_pulse_18 (by decide) (fun h18 => ?_) (fun h18 => ?_)
    · obtain ⟨i, j, rfl, hi, rfl, hj⟩ := hc_nat d0 ⟨d0a, d0b⟩ d1 ⟨d1a, d1b⟩ h6
      have hin9 : vp_in (nI i * 24 + nI j) 192 := (by rw [pl_eq]; exact vp_in_nI (by omega) (by decide))
      refine mg_bipush (v := 24) C dX5_pulse_24 (by decide) ?_
      refine mg_iload_n C dX5_pulse_26 rfl ?_
      refine mg_imul C dX5_pulse_27 ?_
      refine mg_iload_n C dX5_pulse_28 rfl ?_
      refine mg_iadd C dX5_pulse_29 ?_
      refine mg_tos (w := .int (nI i * 24 + nI j)) (by rw [Int32.mul_comm]) ?_
      refine mg_istore C dX5_pulse_30 rfl ?_
      refine mg_lve (lv' := [(0, _), (1, _), (2, _), (3, _), (4, _)]) rfl ?_
      refine mg_aload_n C dX5_pulse_32 rfl ?_
      refine mg_get C inG_X5 fX5_23 (ci := 5) rfl rfl 17 rfl rfl dX5_pulse_33 ?_
      refine mg_iload C dX5_pulse_36 rfl ?_
      refine mg_iald C 15 rfl (hin9) dX5_pulse_38 ?_
      refine mg_iconst (v := (-1)) C dX5_pulse_39 (by decide) ?_
      refine mg_icmp_eq C 46 dX5_pulse_40 (by decide) (fun h40 => ?_) (fun h40 => ?_)
      · refine mg_iconst (v := 0) C dX5_pulse_46 (by decide) ?_
        refine mg_istore C dX5_pulse_47 rfl ?_
        refine mg_lve (lv' := [(0, _), (1, _), (2, _), (3, _), (4, _), (5, _)]) rfl ?_
        exact loop _ _ y _ hin9 41 0 a (by omega) (by omega) KM.rf
      · refine mg_bipush (v := (-3)) C dX5_pulse_43 (by decide) ?_
        exact mg_iret C hQ dX5_pulse_45 (⟨_, ad, g, a, v, rfl, Sh.rf, hV, rfl, rfl⟩)
    · refine mg_bipush (v := (-2)) C dX5_pulse_21 (by decide) ?_
      exact mg_iret C hQ dX5_pulse_23 (⟨_, ad, g, a, v, rfl, Sh.rf, hV, rfl, rfl⟩)
/-- how many of the first k CELLS STICK -/
def skT (a : Nat → Nat → Int32) : Nat → Nat
  | 0 => 0
  | k + 1 => skT a k + (if a 1 k = -1 then 0 else 1)
theorem skT_row (a : Nat → Nat → Int32) (r : Nat) : ∀ c : Nat, skT a (r * 24 + c) = skT a (r * 24) + skC a r c
  | 0 => rfl
  | c + 1 => by
    show skT a (r * 24 + c) + (if a 1 (r * 24 + c) = -1 then 0 else 1) = skT a (r * 24) + (skC a r c + (if a 1 (r * 24 + c) = -1 then 0 else 1))
    rw [skT_row a r c, Nat.add_assoc]
theorem skT_all (a : Nat → Nat → Int32) : ∀ r : Nat, skT a (r * 24) = skR a 24 r
  | 0 => rfl
  | r + 1 => by
    rw [Nat.succ_mul, skT_row a r 24, skT_all a r]
    rfl
theorem skC_out {a : Nat → Nat → Int32} {r C : Nat} : ∀ c : Nat, (∀ j, C ≤ j → j < C + c → a 1 (r * 24 + j) = -1) → skC a r (C + c) = skC a r C
  | 0, _ => rfl
  | c + 1, h => by
    show skC a r (C + c) + (if a 1 (r * 24 + (C + c)) = -1 then 0 else 1) = skC a r C
    rw [skC_out c (fun j h1 h2 => h j h1 (by omega)), if_pos (h (C + c) (by omega) (by omega)), Nat.add_zero]
theorem skR_col {a : Nat → Nat → Int32} {C : Nat} (hC : C ≤ 24) : ∀ r : Nat, (∀ q c, q < r → C ≤ c → c < 24 → a 1 (q * 24 + c) = -1) → skR a 24 r = skR a C r
  | 0, _ => rfl
  | r + 1, h => by
    show skR a 24 r + skC a r 24 = skR a C r + skC a r C
    rw [skR_col hC r (fun q c h1 h2 h3 => h q c (by omega) h2 h3)]
    have e := skC_out (a := a) (r := r) (C := C) (24 - C) (fun j h1 h2 => h r j (by omega) h1 (by omega))
    rw [show C + (24 - C) = 24 by omega] at e
    rw [e]
theorem skC_0 {a : Nat → Nat → Int32} {r : Nat} : ∀ c : Nat, (∀ j, j < c → a 1 (r * 24 + j) = -1) → skC a r c = 0
  | 0, _ => rfl
  | c + 1, h => by
    show skC a r c + _ = 0
    rw [skC_0 c (fun j h1 => h j (by omega)), if_pos (h c (by omega))]
theorem skR_out {a : Nat → Nat → Int32} {C R : Nat} : ∀ r : Nat, (∀ q c, R ≤ q → q < R + r → c < C → a 1 (q * 24 + c) = -1) → skR a C (R + r) = skR a C R
  | 0, _ => rfl
  | r + 1, h => by
    show skR a C (R + r) + skC a (R + r) C = _
    rw [skR_out r (fun q c h1 h2 h3 => h q c h1 (by omega) h3), skC_0 C (fun j hj => h (R + r) j (by omega) (by omega) hj), Nat.add_zero]
theorem skT_192 {a : Nat → Nat → Int32} {R C : Nat} (hR : R ≤ 8) (hC : C ≤ 24) (h : ∀ r c, r < 8 → c < 24 → (R ≤ r ∨ C ≤ c) → a 1 (r * 24 + c) = -1) : skT a 192 = skR a C R := by
  rw [show 192 = 8 * 24 from rfl, skT_all, skR_col hC 8 (fun q c h1 h2 h3 => h q c h1 h3 (Or.inr h2))]
  have e := skR_out (a := a) (C := C) (R := R) (8 - R) (fun q c h1 h2 h3 => h q c (by omega) (by omega) (Or.inl h1))
  rw [show R + (8 - R) = 8 by omega] at e
  exact e
set_option maxHeartbeats 400000 in
set_option maxRecDepth 100000 in
theorem mx_count (E : En) (ad : Nat → Nat) (g : Nat → Int32) (a : Nat → Nat → Int32) (v : Nat → Int64) (tl : va_W) (xx : Int32) (hV : MO g a) : Ct E mX5_count 0 0 0 [.ref (ad 17), .int xx] (mw E ad g a v tl) (fun o w => o = some (.int (gCount g a xx)) ∧ w = mw E ad g a v tl) := by
  refine Ct.of (by decide) (Nat.le_of_ble_eq_true rfl) (fun X C hQ hin => ?_)
  have C : Cx E X cX5_count 4 RX5 (some .int) 0 0 0 0 := C
  obtain ⟨R, Cc, T, n, m, D, F, ⟨⟨d0, d0a, d0b⟩, ⟨d1, d1a, d1b⟩, ⟨d2, d2a, d2b⟩, ⟨d4, d4a⟩, d5, ⟨d6, d6a⟩, dcm, dn0, dn1⟩, ⟨dF, dF1, dF2⟩, drow, dout⟩ := id hV.1
  have loop_here : xx = nI 3 → gCount g a (nI 3) = nI (skR a (g 1).toNatClampNeg (g 0).toNatClampNeg) → ∀ (m1 k : Nat), 192 < k + m1 → k ≤ 192 → GG E X (mw E ad g a v tl) 0 0 69 [(0, .ref (ad 17)), (1, .int (nI 3)), (2, .int (nI (skT a k))), (3, .int (nI k))] [] := by
    intro exx hgc
    intro m1
    induction m1 with
    | zero => intro k hm hi; omega
    | succ m1 ih =>
      intro k hm hi
      refine mg_iload_n C dX5_count_69 rfl ?_
      refine mg_sipush (v := 192) C dX5_count_70 (by decide) ?_
      refine mg_icmp_ge C 100 dX5_count_73 (by decide) (fun h73 => ?_) (fun h73 => ?_)
      · have hge : k = 192 := (by rcases Nat.lt_or_ge k 192 with h | h; exact absurd h73 (nI_ge (b := 192) h (by decide)); omega)
        subst hge
        refine mg_iload_n C dX5_count_100 rfl ?_
        exact mg_iret C hQ dX5_count_101 (⟨by rw [exx, hgc, skT_192 d0b d1b dout]; show _ = some (Value.int (nI (skR a (g 1).toNatClampNeg (g 0).toNatClampNeg))); rw [d0, d1, nI_clamp (by omega), nI_clamp (by omega)], rfl⟩)
      · have hlt : k < 192 := (by rcases Nat.lt_or_ge k 192 with h | h; exact h; exact absurd (show (192 : Int32) ≤ nI k from nI_le (a := 192) h (by omega)) h73)
        have hin9 : vp_in (nI k) 192 := vp_in_nI hlt (by decide)
        refine mg_iload_n C dX5_count_76 rfl ?_
        refine mg_aload_n C dX5_count_77 rfl ?_
        refine mg_get C inG_X5 fX5_23 (ci := 5) rfl rfl 17 rfl rfl dX5_count_78 ?_
        refine mg_iload_n C dX5_count_81 rfl ?_
        refine mg_iald C 15 rfl (hin9) dX5_count_82 ?_
        refine mg_iconst (v := (-1)) C dX5_count_83 (by decide) ?_
        refine mg_icmp_ne C 91 dX5_count_84 (by decide) (fun h84 => ?_) (fun h84 => ?_)
        · refine mg_iconst (v := 1) C dX5_count_91 (by decide) ?_
          refine mg_iadd C dX5_count_92 ?_
          refine mg_istore_n C dX5_count_93 rfl ?_
          refine mg_lve (lv' := [(0, _), (1, _), (2, _), (3, _)]) rfl ?_
          refine mg_iinc C dX5_count_94 rfl rfl ?_
          refine mg_lve (lv' := [(0, _), (1, _), (2, _), (3, _)]) rfl ?_
          refine mg_goto C 69 dX5_count_97 (by decide) ?_
          have e1 : skT a (k + 1) = skT a k + 1 := (by rw [skT, if_neg (by rw [nI_clamp (by omega)] at h84; exact h84)])
          refine mg_lve (lv' := [(0, .ref (ad 17)), (1, .int (nI 3)), (2, .int (nI (skT a (k + 1)))), (3, .int (nI (k + 1)))]) (by rw [e1, nI_succ k, nI_succ (skT a k)]; rfl) ?_
          exact ih (k + 1) (by omega) (by omega)
        · refine mg_iconst (v := 0) C dX5_count_87 (by decide) ?_
          refine mg_goto C 92 dX5_count_88 (by decide) ?_
          refine mg_iadd C dX5_count_92 ?_
          refine mg_istore_n C dX5_count_93 rfl ?_
          refine mg_lve (lv' := [(0, _), (1, _), (2, _), (3, _)]) rfl ?_
          refine mg_iinc C dX5_count_94 rfl rfl ?_
          refine mg_lve (lv' := [(0, _), (1, _), (2, _), (3, _)]) rfl ?_
          refine mg_goto C 69 dX5_count_97 (by decide) ?_
          have e1 : skT a (k + 1) = skT a k := (by rw [skT, if_pos (by rw [nI_clamp (by omega)] at h84; exact h84), Nat.add_zero])
          refine mg_lve (lv' := [(0, .ref (ad 17)), (1, .int (nI 3)), (2, .int (nI (skT a (k + 1)))), (3, .int (nI (k + 1)))]) (by rw [e1, nI_succ k, Int32.add_zero]; rfl) ?_
          exact ih (k + 1) (by omega) (by omega)
  refine mg_iconst (v := 0) C dX5_count_0 (by decide) ?_
  refine mg_istore_n C dX5_count_1 rfl ?_
  refine mg_lve (lv' := [(0, _), (1, _), (2, _)]) rfl ?_
  refine mg_iload_n C dX5_count_2 rfl ?_
  by_cases hx : xx.toInt < 0 ∨ 8 < xx.toInt
  · refine mg_tabOut C 143 dX5_count_3 hx (by decide) ?_
    refine mg_bipush (v := (-2)) C dX5_count_143 (by decide) ?_
    exact mg_iret C hQ dX5_count_145 (⟨by rw [gCount, if_pos hx], rfl⟩)
  · have hgc := gCount_in (g := g) (a := a) hx
    obtain ⟨j, hj, e⟩ := nI_of (x := xx) (fun hh => hx (Or.inl (by rw [Int32.lt_iff_toInt_lt] at hh; exact hh)))
    subst e
    have hj8 : j ≤ 8 := (by rw [nI_toInt hj] at hx; omega)
    rw [nI_clamp (by omega)] at hgc
    rcases (by omega : j = 0 ∨ j = 1 ∨ j = 2 ∨ j = 3 ∨ j = 4 ∨ j = 5 ∨ j = 6 ∨ j = 7 ∨ j = 8) with rfl | rfl | rfl | rfl | rfl | rfl | rfl | rfl | rfl
    · refine mg_tabIn C 52 dX5_count_3 (by decide) (by decide) rfl (by decide) ?_
      refine mg_aload_n C dX5_count_52 rfl ?_
      refine mg_get C inG_X5 fX5_7 (ci := 5) rfl rfl 17 rfl rfl dX5_count_53 ?_
      exact mg_iret C hQ dX5_count_56 (⟨by rw [hgc]; rfl, rfl⟩)
    · refine mg_tabIn C 57 dX5_count_3 (by decide) (by decide) rfl (by decide) ?_
      refine mg_aload_n C dX5_count_57 rfl ?_
      refine mg_get C inG_X5 fX5_13 (ci := 5) rfl rfl 17 rfl rfl dX5_count_58 ?_
      exact mg_iret C hQ dX5_count_61 (⟨by rw [hgc]; rfl, rfl⟩)
    · refine mg_tabIn C 62 dX5_count_3 (by decide) (by decide) rfl (by decide) ?_
      refine mg_aload_n C dX5_count_62 rfl ?_
      refine mg_get C inG_X5 fX5_16 (ci := 5) rfl rfl 17 rfl rfl dX5_count_63 ?_
      exact mg_iret C hQ dX5_count_66 (⟨by rw [hgc]; rfl, rfl⟩)
    · refine mg_tabIn C 67 dX5_count_3 (by decide) (by decide) rfl (by decide) ?_
      refine mg_iconst (v := 0) C dX5_count_67 (by decide) ?_
      refine mg_istore_n C dX5_count_68 rfl ?_
      refine mg_lve (lv' := [(0, _), (1, _), (2, _), (3, _)]) rfl ?_
      exact loop_here rfl hgc 193 0 (by omega) (by omega)
    · refine mg_tabIn C 102 dX5_count_3 (by decide) (by decide) rfl (by decide) ?_
      refine mg_aload_n C dX5_count_102 rfl ?_
      refine mg_get C inG_X5 fX5_82 (ci := 5) rfl rfl 17 rfl rfl dX5_count_103 ?_
      exact mg_iret C hQ dX5_count_106 (⟨by rw [hgc]; rfl, rfl⟩)
    · refine mg_tabIn C 107 dX5_count_3 (by decide) (by decide) rfl (by decide) ?_
      refine mg_aload_n C dX5_count_107 rfl ?_
      refine mg_get C inG_X5 fX5_85 (ci := 5) rfl rfl 17 rfl rfl dX5_count_108 ?_
      exact mg_iret C hQ dX5_count_111 (⟨by rw [hgc]; rfl, rfl⟩)
    · refine mg_tabIn C 112 dX5_count_3 (by decide) (by decide) rfl (by decide) ?_
      refine mg_aload_n C dX5_count_112 rfl ?_
      refine mg_get C inG_X5 fX5_88 (ci := 5) rfl rfl 17 rfl rfl dX5_count_113 ?_
      exact mg_iret C hQ dX5_count_116 (⟨by rw [hgc]; rfl, rfl⟩)
    · refine mg_tabIn C 117 dX5_count_3 (by decide) (by decide) rfl (by decide) ?_
      refine mg_aload_n C dX5_count_117 rfl ?_
      refine mg_get C inG_X5 fX5_91 (ci := 5) rfl rfl 17 rfl rfl dX5_count_118 ?_
      refine mg_if_eq C 128 dX5_count_121 (by decide) (fun h121 => ?_) (fun h121 => ?_)
      · refine mg_iconst (v := 0) C dX5_count_128 (by decide) ?_
        exact mg_iret C hQ dX5_count_129 (⟨by rw [hgc]; show _ = some (Value.int (if g 8 = 0 then 0 else 1)); rw [if_pos h121], rfl⟩)
      · refine mg_iconst (v := 1) C dX5_count_124 (by decide) ?_
        refine mg_goto C 129 dX5_count_125 (by decide) ?_
        exact mg_iret C hQ dX5_count_129 (⟨by rw [hgc]; show _ = some (Value.int (if g 8 = 0 then 0 else 1)); rw [if_neg h121], rfl⟩)
    · refine mg_tabIn C 130 dX5_count_3 (by decide) (by decide) rfl (by decide) ?_
      refine mg_aload_n C dX5_count_130 rfl ?_
      refine mg_get C inG_X5 fX5_95 (ci := 5) rfl rfl 17 rfl rfl dX5_count_131 ?_
      refine mg_if_eq C 141 dX5_count_134 (by decide) (fun h134 => ?_) (fun h134 => ?_)
      · refine mg_iconst (v := 0) C dX5_count_141 (by decide) ?_
        exact mg_iret C hQ dX5_count_142 (⟨by rw [hgc]; show _ = some (Value.int (if g 9 = 0 then 0 else 1)); rw [if_pos h134], rfl⟩)
      · refine mg_iconst (v := 1) C dX5_count_137 (by decide) ?_
        refine mg_goto C 142 dX5_count_138 (by decide) ?_
        exact mg_iret C hQ dX5_count_142 (⟨by rw [hgc]; show _ = some (Value.int (if g 9 = 0 then 0 else 1)); rw [if_neg h134], rfl⟩)
theorem mv_count (E : En) (ad : Nat → Nat) (g : Nat → Int32) (a : Nat → Nat → Int32) (v : Nat → Int64) (tl : va_W) (xx : Int32) (hV : MO g a) : Ct E mX5_count 0 0 0 [.ref (ad 17), .int xx] (mw E ad g a v tl) (fun o w => ∃ (ad1 : Nat → Nat) (g1 : Nat → Int32) (a1 : Nat → Nat → Int32) (v1 : Nat → Int64), o = some (.int (gCount g a xx)) ∧ Sh g a g1 a1 ∧ MO g1 a1 ∧ ad1 17 = ad 17 ∧ w = mw E ad1 g1 a1 v1 tl) :=
  (mx_count E ad g a v tl xx hV).mono (fun o w hz => ⟨ad, g, a, v, hz.1, Sh.rf, hV, rfl, hz.2⟩)
set_option maxHeartbeats 400000 in
set_option maxRecDepth 100000 in
theorem mv_digest (E : En) (ad : Nat → Nat) (g : Nat → Int32) (a : Nat → Nat → Int32) (v : Nat → Int64) (tl : va_W) (hV : MO g a) : Ct E mX5_digest 1 0 0 [.ref (ad 17)] (mw E ad g a v tl) (fun o w => ∃ (r : Int64) (ad1 : Nat → Nat) (g1 : Nat → Int32) (a1 : Nat → Nat → Int32) (v1 : Nat → Int64), o = some (.long r) ∧ Sh g a g1 a1 ∧ MO g1 a1 ∧ ad1 17 = ad 17 ∧ w = mw E ad1 g1 a1 v1 tl) := by
  refine Ct.of (by decide) (Nat.le_of_ble_eq_true rfl) (fun X C hQ hin => ?_)
  have C : Cx E X cX5_digest 6 RX5 (some .long) 1 40 0 0 := C
  obtain ⟨R, Cc, T, n, m, D, F, ⟨⟨d0, d0a, d0b⟩, ⟨d1, d1a, d1b⟩, ⟨d2, d2a, d2b⟩, ⟨d4, d4a⟩, d5, ⟨d6, d6a⟩, dcm, dn0, dn1⟩, ⟨dF, dF1, dF2⟩, drow, dout⟩ := id hV.1
  have lpf : ∀ (m1 r : Nat) (y : Int64), F < r + m1 → r ≤ F → GG E X (mw E ad g a v tl) 0 0 201 [(0, .ref (ad 17)), (1, .long y), (3, .int (nI r))] [] := by
    intro m1
    induction m1 with
    | zero => intro r y hm hi; omega
    | succ m1 ih =>
      intro r y hm hi
      refine mg_iload_n C dX5_digest_201 rfl ?_
      refine mg_aload_n C dX5_digest_202 rfl ?_
      refine mg_get C inG_X5 fX5_160 (ci := 5) rfl rfl 17 rfl rfl dX5_digest_203 ?_
      refine mg_icmp_ge C 265 dX5_digest_206 (by decide) (fun h206 => ?_) (fun h206 => ?_)
      · refine mg_lload_n C dX5_digest_265 rfl ?_
        exact mg_lret C hQ dX5_digest_266 (⟨_, ad, g, a, v, rfl, Sh.rf, hV, rfl, rfl⟩)
      · have hlt : r < F := (by rcases Nat.lt_or_ge r F with h | h; exact h; exact absurd (by rw [dF]; exact nI_le h (by omega)) h206)
        have hini : vp_in (nI r) 8000 := vp_in_nI (by omega) (by decide)
        refine mg_ldc2 C dX5_digest_209 kX5_185 ?_
        refine mg_ldc2 C dX5_digest_212 kX5_185 ?_
        refine mg_ldc2 C dX5_digest_215 kX5_185 ?_
        refine mg_lload_n C dX5_digest_218 rfl ?_
        refine mg_lmul C dX5_digest_219 ?_
        refine mg_aload_n C dX5_digest_220 rfl ?_
        refine mg_get C inG_X5 fX5_72 (ci := 5) rfl rfl 17 rfl rfl dX5_digest_221 ?_
        refine mg_iload_n C dX5_digest_224 rfl ?_
        refine mg_iald C 0 rfl (hini) dX5_digest_225 ?_
        refine mg_bipush (v := 64) C dX5_digest_226 (by decide) ?_
        refine mg_idiv C dX5_digest_228 (by decide) ?_
        refine mg_i2l C dX5_digest_229 ?_
        refine mg_ladd C dX5_digest_230 ?_
        refine mg_lmul C dX5_digest_231 ?_
        refine mg_aload_n C dX5_digest_232 rfl ?_
        refine mg_get C inG_X5 fX5_72 (ci := 5) rfl rfl 17 rfl rfl dX5_digest_233 ?_
        refine mg_iload_n C dX5_digest_236 rfl ?_
        refine mg_iald C 0 rfl (hini) dX5_digest_237 ?_
        refine mg_bipush (v := 8) C dX5_digest_238 (by decide) ?_
        refine mg_idiv C dX5_digest_240 (by decide) ?_
        refine mg_bipush (v := 8) C dX5_digest_241 (by decide) ?_
        refine mg_irem C dX5_digest_243 (by decide) ?_
        refine mg_i2l C dX5_digest_244 ?_
        refine mg_ladd C dX5_digest_245 ?_
        refine mg_lmul C dX5_digest_246 ?_
        refine mg_aload_n C dX5_digest_247 rfl ?_
        refine mg_get C inG_X5 fX5_72 (ci := 5) rfl rfl 17 rfl rfl dX5_digest_248 ?_
        refine mg_iload_n C dX5_digest_251 rfl ?_
        refine mg_iald C 0 rfl (hini) dX5_digest_252 ?_
        refine mg_bipush (v := 8) C dX5_digest_253 (by decide) ?_
        refine mg_irem C dX5_digest_255 (by decide) ?_
        refine mg_i2l C dX5_digest_256 ?_
        refine mg_ladd C dX5_digest_257 ?_
        refine mg_lstore_n C dX5_digest_258 rfl ?_
        refine mg_lve (lv' := [(0, _), (1, _), (3, _)]) rfl ?_
        refine mg_iinc C dX5_digest_259 rfl rfl ?_
        refine mg_lve (lv' := [(0, _), (1, _), (3, _)]) rfl ?_
        refine mg_goto C 201 dX5_digest_262 (by decide) ?_
        rw [show nI r + Int32.ofInt 1 = nI (r + 1) from (nI_succ r).symm]
        exact ih (r + 1) _ (by omega) (by omega)
  have lpk : ∀ (r : Nat), r < n → m ≤ 12 → (∀ y : Int64, GG E X (mw E ad g a v tl) 0 0 193 [(0, .ref (ad 17)), (1, .long y), (3, .int (nI r)), (4, .int (nI m))] []) → ∀ (m1 c : Nat) (y : Int64), m < c + m1 → c ≤ m → GG E X (mw E ad g a v tl) 0 0 158 [(0, .ref (ad 17)), (1, .long y), (3, .int (nI r)), (4, .int (nI c))] [] := by
    intro r hrn hm12 out
    intro m1
    induction m1 with
    | zero => intro c y hm hi; omega
    | succ m1 ih =>
      intro c y hm hi
      refine mg_iload C dX5_digest_158 rfl ?_
      refine mg_aload_n C dX5_digest_160 rfl ?_
      refine mg_get C inG_X5 fX5_85 (ci := 5) rfl rfl 17 rfl rfl dX5_digest_161 ?_
      refine mg_icmp_ge C 193 dX5_digest_164 (by decide) (fun h164 => ?_) (fun h164 => ?_)
      · have hge : c = m := (by rcases Nat.lt_or_ge c m with h | h; exact absurd (by rw [d5] at h164; exact h164) (nI_ge h (by omega)); omega)
        subst hge
        exact out y
      · have hlt : c < m := (by rcases Nat.lt_or_ge c m with h | h; exact h; exact absurd (by rw [d5]; exact nI_le h (by omega)) h164)
        have hinn : vp_in (12 * nI r + nI c) 96 := (by rw [nu_eq']; exact vp_in_nI (by omega) (by decide))
        refine mg_ldc2 C dX5_digest_167 kX5_185 ?_
        refine mg_lload_n C dX5_digest_170 rfl ?_
        refine mg_lmul C dX5_digest_171 ?_
        refine mg_aload_n C dX5_digest_172 rfl ?_
        refine mg_get C inG_X5 fX5_35 (ci := 5) rfl rfl 17 rfl rfl dX5_digest_173 ?_
        refine mg_bipush (v := 12) C dX5_digest_176 (by decide) ?_
        refine mg_iload_n C dX5_digest_178 rfl ?_
        refine mg_imul C dX5_digest_179 ?_
        refine mg_iload C dX5_digest_180 rfl ?_
        refine mg_iadd C dX5_digest_182 ?_
        refine mg_iald C 12 rfl (hinn) dX5_digest_183 ?_
        refine mg_i2l C dX5_digest_184 ?_
        refine mg_ladd C dX5_digest_185 ?_
        refine mg_lstore_n C dX5_digest_186 rfl ?_
        refine mg_lve (lv' := [(0, _), (1, _), (3, _), (4, _)]) rfl ?_
        refine mg_iinc C dX5_digest_187 rfl rfl ?_
        refine mg_lve (lv' := [(0, _), (1, _), (3, _), (4, _)]) rfl ?_
        refine mg_goto C 158 dX5_digest_190 (by decide) ?_
        rw [show nI c + Int32.ofInt 1 = nI (c + 1) from (nI_succ c).symm]
        exact ih (c + 1) _ (by omega) (by omega)
  have lpi : ∀ (m1 r : Nat) (y : Int64), n < r + m1 → r ≤ n → GG E X (mw E ad g a v tl) 0 0 133 [(0, .ref (ad 17)), (1, .long y), (3, .int (nI r))] [] := by
    intro m1
    induction m1 with
    | zero => intro r y hm hi; omega
    | succ m1 ih =>
      intro r y hm hi
      refine mg_iload_n C dX5_digest_133 rfl ?_
      refine mg_aload_n C dX5_digest_134 rfl ?_
      refine mg_get C inG_X5 fX5_82 (ci := 5) rfl rfl 17 rfl rfl dX5_digest_135 ?_
      refine mg_icmp_ge C 199 dX5_digest_138 (by decide) (fun h138 => ?_) (fun h138 => ?_)
      · refine mg_iconst (v := 0) C dX5_digest_199 (by decide) ?_
        refine mg_istore_n C dX5_digest_200 rfl ?_
        refine mg_lve (lv' := [(0, _), (1, _), (3, _)]) rfl ?_
        exact lpf (F + 1) 0 _ (by omega) (by omega)
      · have hlt : r < n := (by rcases Nat.lt_or_ge r n with h | h; exact h; exact absurd (by rw [d4]; exact nI_le h (by omega)) h138)
        have hin8 : vp_in (nI r) 8 := vp_in_nI (by omega) (by decide)
        have hm12 := m12 (n := n) dcm d1b (dn1 (by omega)).1
        refine mg_ldc2 C dX5_digest_141 kX5_185 ?_
        refine mg_lload_n C dX5_digest_144 rfl ?_
        refine mg_lmul C dX5_digest_145 ?_
        refine mg_aload_n C dX5_digest_146 rfl ?_
        refine mg_get C inG_X5 fX5_38 (ci := 5) rfl rfl 17 rfl rfl dX5_digest_147 ?_
        refine mg_iload_n C dX5_digest_150 rfl ?_
        refine mg_iald C 11 rfl (hin8) dX5_digest_151 ?_
        refine mg_i2l C dX5_digest_152 ?_
        refine mg_ladd C dX5_digest_153 ?_
        refine mg_lstore_n C dX5_digest_154 rfl ?_
        refine mg_lve (lv' := [(0, _), (1, _), (3, _)]) rfl ?_
        refine mg_iconst (v := 0) C dX5_digest_155 (by decide) ?_
        refine mg_istore C dX5_digest_156 rfl ?_
        refine mg_lve (lv' := [(0, _), (1, _), (3, _), (4, _)]) rfl ?_
        refine lpk r hlt hm12 (fun y1 => ?_) (m + 1) 0 _ (by omega) (by omega)
        refine mg_iinc C dX5_digest_193 rfl rfl ?_
        refine mg_goto C 133 dX5_digest_196 (by decide) ?_
        refine mg_lv (lv' := [(0, _), (1, _), (3, _)]) (lv_tk 3 rfl) ?_
        rw [show nI r + Int32.ofInt 1 = nI (r + 1) from (nI_succ r).symm]
        exact ih (r + 1) y1 (by omega) (by omega)
  have lpn : ∀ (m1 r : Nat) (y : Int64), R < r + m1 → r ≤ R → GG E X (mw E ad g a v tl) 0 0 103 [(0, .ref (ad 17)), (1, .long y), (3, .int (nI r))] [] := by
    intro m1
    induction m1 with
    | zero => intro r y hm hi; omega
    | succ m1 ih =>
      intro r y hm hi
      refine mg_iload_n C dX5_digest_103 rfl ?_
      refine mg_aload_n C dX5_digest_104 rfl ?_
      refine mg_get C inG_X5 fX5_7 (ci := 5) rfl rfl 17 rfl rfl dX5_digest_105 ?_
      refine mg_icmp_ge C 131 dX5_digest_108 (by decide) (fun h108 => ?_) (fun h108 => ?_)
      · refine mg_iconst (v := 0) C dX5_digest_131 (by decide) ?_
        refine mg_istore_n C dX5_digest_132 rfl ?_
        refine mg_lve (lv' := [(0, _), (1, _), (3, _)]) rfl ?_
        exact lpi (n + 1) 0 _ (by omega) (by omega)
      · have hlt : r < R := (by rcases Nat.lt_or_ge r R with h | h; exact h; exact absurd (by rw [d0]; exact nI_le h (by omega)) h108)
        have hin8 : vp_in (nI r) 8 := vp_in_nI (by omega) (by decide)
        refine mg_ldc2 C dX5_digest_111 kX5_185 ?_
        refine mg_lload_n C dX5_digest_114 rfl ?_
        refine mg_lmul C dX5_digest_115 ?_
        refine mg_aload_n C dX5_digest_116 rfl ?_
        refine mg_get C inG_X5 fX5_29 (ci := 5) rfl rfl 17 rfl rfl dX5_digest_117 ?_
        refine mg_iload_n C dX5_digest_120 rfl ?_
        refine mg_iald C 13 rfl (hin8) dX5_digest_121 ?_
        refine mg_i2l C dX5_digest_122 ?_
        refine mg_ladd C dX5_digest_123 ?_
        refine mg_lstore_n C dX5_digest_124 rfl ?_
        refine mg_lve (lv' := [(0, _), (1, _), (3, _)]) rfl ?_
        refine mg_iinc C dX5_digest_125 rfl rfl ?_
        refine mg_lve (lv' := [(0, _), (1, _), (3, _)]) rfl ?_
        refine mg_goto C 103 dX5_digest_128 (by decide) ?_
        rw [show nI r + Int32.ofInt 1 = nI (r + 1) from (nI_succ r).symm]
        exact ih (r + 1) _ (by omega) (by omega)
  have lp3 : ∀ (r c : Nat), r < R → c < Cc → (∀ y : Int64, GG E X (mw E ad g a v tl) 0 0 89 [(0, .ref (ad 17)), (1, .long y), (3, .int (nI r)), (4, .int (nI c)), (5, .int (nI 3))] []) → ∀ (m1 q : Nat) (y : Int64), 3 < q + m1 → q ≤ 3 → GG E X (mw E ad g a v tl) 0 0 56 [(0, .ref (ad 17)), (1, .long y), (3, .int (nI r)), (4, .int (nI c)), (5, .int (nI q))] [] := by
    intro r c hrR hcC out
    intro m1
    induction m1 with
    | zero => intro q y hm hi; omega
    | succ m1 ih =>
      intro q y hm hi
      refine mg_iload C dX5_digest_56 rfl ?_
      refine mg_iconst (v := 3) C dX5_digest_58 (by decide) ?_
      refine mg_icmp_ge C 89 dX5_digest_59 (by decide) (fun h59 => ?_) (fun h59 => ?_)
      · have hge : q = 3 := (by rcases Nat.lt_or_ge q 3 with h | h; exact absurd h59 (nI_ge (b := 3) h (by decide)); omega)
        subst hge
        exact out y
      · have hlt : q < 3 := (by rcases Nat.lt_or_ge q 3 with h | h; exact h; exact absurd (show (3 : Int32) ≤ nI q from nI_le (a := 3) h (by omega)) h59)
        have hin9 : vp_in (24 * nI r + nI c) 192 := (by rw [pl_eq']; exact vp_in_nI (by omega) (by decide))
        refine mg_ldc2 C dX5_digest_62 kX5_185 ?_
        refine mg_lload_n C dX5_digest_65 rfl ?_
        refine mg_lmul C dX5_digest_66 ?_
        refine mg_aload_n C dX5_digest_67 rfl ?_
        refine mg_bipush (v := 24) C dX5_digest_68 (by decide) ?_
        refine mg_iload_n C dX5_digest_70 rfl ?_
        refine mg_imul C dX5_digest_71 ?_
        refine mg_iload C dX5_digest_72 rfl ?_
        refine mg_iadd C dX5_digest_74 ?_
        refine mg_iload C dX5_digest_75 rfl ?_
        refine mg_callV C (ct_X5_cellAt E _ _ _ _ _ _ _ hin9) oX5_109 17 rfl rfl rfl rfl rfl dX5_digest_77 (fun o77 w77 z77 => ?_)
        obtain ⟨rfl, rfl⟩ := z77
        refine mg_v ?_
        refine mg_i2l C dX5_digest_80 ?_
        refine mg_ladd C dX5_digest_81 ?_
        refine mg_lstore_n C dX5_digest_82 rfl ?_
        refine mg_lve (lv' := [(0, _), (1, _), (3, _), (4, _), (5, _)]) rfl ?_
        refine mg_iinc C dX5_digest_83 rfl rfl ?_
        refine mg_lve (lv' := [(0, _), (1, _), (3, _), (4, _), (5, _)]) rfl ?_
        refine mg_goto C 56 dX5_digest_86 (by decide) ?_
        rw [show nI q + Int32.ofInt 1 = nI (q + 1) from (nI_succ q).symm]
        exact ih (q + 1) _ (by omega) (by omega)
  have lp2 : ∀ (r : Nat), r < R → (∀ y : Int64, GG E X (mw E ad g a v tl) 0 0 95 [(0, .ref (ad 17)), (1, .long y), (3, .int (nI r)), (4, .int (nI Cc))] []) → ∀ (m1 c : Nat) (y : Int64), Cc < c + m1 → c ≤ Cc → GG E X (mw E ad g a v tl) 0 0 44 [(0, .ref (ad 17)), (1, .long y), (3, .int (nI r)), (4, .int (nI c))] [] := by
    intro r hrR out
    intro m1
    induction m1 with
    | zero => intro c y hm hi; omega
    | succ m1 ih =>
      intro c y hm hi
      refine mg_iload C dX5_digest_44 rfl ?_
      refine mg_aload_n C dX5_digest_46 rfl ?_
      refine mg_get C inG_X5 fX5_13 (ci := 5) rfl rfl 17 rfl rfl dX5_digest_47 ?_
      refine mg_icmp_ge C 95 dX5_digest_50 (by decide) (fun h50 => ?_) (fun h50 => ?_)
      · have hge : c = Cc := (by rcases Nat.lt_or_ge c Cc with h | h; exact absurd (by rw [d1] at h50; exact h50) (nI_ge h (by omega)); omega)
        subst hge
        exact out y
      · have hlt : c < Cc := (by rcases Nat.lt_or_ge c Cc with h | h; exact h; exact absurd (by rw [d1]; exact nI_le h (by omega)) h50)
        refine mg_iconst (v := 0) C dX5_digest_53 (by decide) ?_
        refine mg_istore C dX5_digest_54 rfl ?_
        refine mg_lve (lv' := [(0, _), (1, _), (3, _), (4, _), (5, _)]) rfl ?_
        refine lp3 r c hrR hlt (fun y1 => ?_) 4 0 y (by omega) (by omega)
        refine mg_iinc C dX5_digest_89 rfl rfl ?_
        refine mg_goto C 44 dX5_digest_92 (by decide) ?_
        refine mg_lv (lv' := [(0, _), (1, _), (3, _), (4, _)]) (lv_tk 4 rfl) ?_
        rw [show nI c + Int32.ofInt 1 = nI (c + 1) from (nI_succ c).symm]
        exact ih (c + 1) y1 (by omega) (by omega)
  have lp1 : ∀ (m1 r : Nat) (y : Int64), R < r + m1 → r ≤ R → GG E X (mw E ad g a v tl) 0 0 33 [(0, .ref (ad 17)), (1, .long y), (3, .int (nI r))] [] := by
    intro m1
    induction m1 with
    | zero => intro r y hm hi; omega
    | succ m1 ih =>
      intro r y hm hi
      refine mg_iload_n C dX5_digest_33 rfl ?_
      refine mg_aload_n C dX5_digest_34 rfl ?_
      refine mg_get C inG_X5 fX5_7 (ci := 5) rfl rfl 17 rfl rfl dX5_digest_35 ?_
      refine mg_icmp_ge C 101 dX5_digest_38 (by decide) (fun h38 => ?_) (fun h38 => ?_)
      · refine mg_iconst (v := 0) C dX5_digest_101 (by decide) ?_
        refine mg_istore_n C dX5_digest_102 rfl ?_
        refine mg_lve (lv' := [(0, _), (1, _), (3, _)]) rfl ?_
        exact lpn (R + 1) 0 _ (by omega) (by omega)
      · have hlt : r < R := (by rcases Nat.lt_or_ge r R with h | h; exact h; exact absurd (by rw [d0]; exact nI_le h (by omega)) h38)
        refine mg_iconst (v := 0) C dX5_digest_41 (by decide) ?_
        refine mg_istore C dX5_digest_42 rfl ?_
        refine mg_lve (lv' := [(0, _), (1, _), (3, _), (4, _)]) rfl ?_
        refine lp2 r hlt (fun y1 => ?_) (Cc + 1) 0 y (by omega) (by omega)
        refine mg_iinc C dX5_digest_95 rfl rfl ?_
        refine mg_goto C 33 dX5_digest_98 (by decide) ?_
        refine mg_lv (lv' := [(0, _), (1, _), (3, _)]) (lv_tk 3 rfl) ?_
        rw [show nI r + Int32.ofInt 1 = nI (r + 1) from (nI_succ r).symm]
        exact ih (r + 1) y1 (by omega) (by omega)
  have lpc : ∀ (m1 r : Nat) (y : Int64), 9 < r + m1 → r ≤ 9 → GG E X (mw E ad g a v tl) 0 0 6 [(0, .ref (ad 17)), (1, .long y), (3, .int (nI r))] [] := by
    intro m1
    induction m1 with
    | zero => intro r y hm hi; omega
    | succ m1 ih =>
      intro r y hm hi
      refine mg_iload_n C dX5_digest_6 rfl ?_
      refine mg_bipush (v := 9) C dX5_digest_7 (by decide) ?_
      refine mg_icmp_ge C 31 dX5_digest_9 (by decide) (fun h9 => ?_) (fun h9 => ?_)
      · refine mg_iconst (v := 0) C dX5_digest_31 (by decide) ?_
        refine mg_istore_n C dX5_digest_32 rfl ?_
        refine mg_lve (lv' := [(0, _), (1, _), (3, _)]) rfl ?_
        exact lp1 (R + 1) 0 _ (by omega) (by omega)
      · have hlt : r < 9 := (by rcases Nat.lt_or_ge r 9 with h | h; exact h; exact absurd (show (9 : Int32) ≤ nI r from nI_le (a := 9) h (by omega)) h9)
        refine mg_ldc2 C dX5_digest_12 kX5_185 ?_
        refine mg_lload_n C dX5_digest_15 rfl ?_
        refine mg_lmul C dX5_digest_16 ?_
        refine mg_aload_n C dX5_digest_17 rfl ?_
        refine mg_iload_n C dX5_digest_18 rfl ?_
        refine mg_callV C (mx_count E _ _ _ _ _ _ hV) oX5_187 17 rfl rfl rfl rfl rfl dX5_digest_19 (fun o19 w19 z19 => ?_)
        obtain ⟨rfl, rfl⟩ := z19
        refine mg_v ?_
        refine mg_i2l C dX5_digest_22 ?_
        refine mg_ladd C dX5_digest_23 ?_
        refine mg_lstore_n C dX5_digest_24 rfl ?_
        refine mg_lve (lv' := [(0, _), (1, _), (3, _)]) rfl ?_
        refine mg_iinc C dX5_digest_25 rfl rfl ?_
        refine mg_lve (lv' := [(0, _), (1, _), (3, _)]) rfl ?_
        refine mg_goto C 6 dX5_digest_28 (by decide) ?_
        rw [show nI r + Int32.ofInt 1 = nI (r + 1) from (nI_succ r).symm]
        exact ih (r + 1) _ (by omega) (by omega)
  refine mg_ldc2 C dX5_digest_0 kX5_183 ?_
  refine mg_lstore_n C dX5_digest_3 rfl ?_
  refine mg_lve (lv' := [(0, _), (1, _)]) rfl ?_
  refine mg_iconst (v := 0) C dX5_digest_4 (by decide) ?_
  refine mg_istore_n C dX5_digest_5 rfl ?_
  refine mg_lve (lv' := [(0, _), (1, _), (3, _)]) rfl ?_
  exact lpc 10 0 _ (by omega) (by omega)
