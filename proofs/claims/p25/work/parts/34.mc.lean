/-- the k-th digit of x by b -/
def dgI (b : Int32) : Nat → Int32 → Int32
  | 0, x => x - x / b * b
  | k + 1, x => dgI b k (x / b)
/-- the LEVEL that CELL c of table row i is to have -/
def wtI (b : Int32) (a : Nat → Nat → Int32) (D i c : Nat) : Int32 :=
  if a 4 (i * 12 + c / (2 * D)) < 0 then (if c % (2 * D) < D then 0 else dgI b (c % (2 * D) % D) (-(a 4 (i * 12 + c / (2 * D)))))
  else (if c % (2 * D) < D then dgI b (c % (2 * D) % D) (a 4 (i * 12 + c / (2 * D))) else 0)
theorem MO.g8 {g : Nat → Int32} {a : Nat → Nat → Int32} {b : Int32} (h : MO g a) : MO (ug g 8 b) a := h
theorem MO.g9 {g : Nat → Int32} {a : Nat → Nat → Int32} {b : Int32} (h : MO g a) : MO (ug g 9 b) a := h
set_option maxHeartbeats 400000 in
set_option maxRecDepth 100000 in
theorem mx_X5_wanted (E : En) (ad : Nat → Nat) (g : Nat → Int32) (a : Nat → Nat → Int32) (v : Nat → Int64) (tl : va_W) (R Cc T n m D : Nat) (hd : Dim g R Cc T n m D) (i c : Nat) (hin : i < n) (hc : c < 2 * D * m) : Ct E mX5_wanted 0 0 0 [.ref (ad 17), .int (nI i), .int (nI c)] (mw E ad g a v tl) (fun o w => o = some (.int (wtI (g 2 + 1) a D i c)) ∧ w = mw E ad g a v tl) := by
  refine Ct.of (by decide) (Nat.le_of_ble_eq_true rfl) (fun X C hQ hin => ?_)
  have C : Cx E X cX5_wanted 8 RX5 (some .int) 0 0 0 0 := C
  obtain ⟨⟨d0, d0a, d0b⟩, ⟨d1, d1a, d1b⟩, ⟨d2, d2a, d2b⟩, ⟨d4, d4a⟩, d5, ⟨d6, d6a⟩, dcm, dn0, dn1⟩ := id hd
  have hD1 := (dn1 (by omega)).1
  have hm12 := m12 (n := n) dcm d1b hD1
  have hb : ¬ g 2 + 1 = 0 := (by rw [d2, nI_1]; exact nI_ne0 (by omega) (by omega))
  have e2d : 2 * g 6 = nI (2 * D) := (by rw [d6, show (2 : Int32) = nI 2 from rfl, pk_mul])
  have h2d : ¬ 2 * g 6 = 0 := (by rw [e2d]; exact nI_ne0 (by omega) (by omega))
  have hd0 : ¬ g 6 = 0 := (by rw [d6]; exact nI_ne0 (by omega) (by omega))
  have hcm : c / (2 * D) < m := (Nat.div_lt_iff_lt_mul (by omega)).mpr (by rw [Nat.mul_comm]; exact hc)
  have hinn : vp_in (nI (i * 12 + c / (2 * D))) 96 := vp_in_nI (by omega) (by decide)
  have hcd : c % (2 * D) < 2 * D := Nat.mod_lt _ (by omega)
  have hcdd : c % (2 * D) % D < D := Nat.mod_lt _ (by omega)
  have loop : ∀ (z3 z4 z5 ans : Int32), wtI (g 2 + 1) a D i c = ans → ∀ (m1 q : Nat) (y : Int32), q < m1 → q < 1000 → dgI (g 2 + 1) q y = ans → GG E X (mw E ad g a v tl) 0 0 82 [(0, .ref (ad 17)), (1, .int (nI i)), (2, .int (nI c)), (3, .int z3), (4, .int z4), (5, .int z5), (6, .int y), (7, .int (nI q))] [] := by
    intro z3 z4 z5 ans hans
    rw [← hans]
    intro m1
    induction m1 with
    | zero => intro q y hm hi; omega
    | succ m1 ih =>
      intro q y hm hi ha
      refine mg_iload C dX5_wanted_82 rfl ?_
      refine mg_if_le C 104 dX5_wanted_84 (by decide) (fun h84 => ?_) (fun h84 => ?_)
      · have eq0 : q = 0 := (by rcases Nat.eq_zero_or_pos q with e | e; exact e; exact absurd h84 (nI_nle e (by omega)))
        subst eq0
        refine mg_iload C dX5_wanted_104 rfl ?_
        refine mg_aload_n C dX5_wanted_106 rfl ?_
        refine mg_get C inG_X5 fX5_16 (ci := 5) rfl rfl 17 rfl rfl dX5_wanted_107 ?_
        refine mg_iconst (v := 1) C dX5_wanted_110 (by decide) ?_
        refine mg_iadd C dX5_wanted_111 ?_
        refine mg_irem C dX5_wanted_112 (hb) ?_
        exact mg_iret C hQ dX5_wanted_113 (⟨by rw [← ha]; rfl, rfl⟩)
      · obtain ⟨u, eu⟩ : ∃ u, q = u + 1 := ⟨q - 1, by rcases Nat.eq_zero_or_pos q with e | e; exact absurd (by rw [e]; exact Int32.le_refl _) h84; omega⟩
        subst eu
        refine mg_iload C dX5_wanted_87 rfl ?_
        refine mg_aload_n C dX5_wanted_89 rfl ?_
        refine mg_get C inG_X5 fX5_16 (ci := 5) rfl rfl 17 rfl rfl dX5_wanted_90 ?_
        refine mg_iconst (v := 1) C dX5_wanted_93 (by decide) ?_
        refine mg_iadd C dX5_wanted_94 ?_
        refine mg_idiv C dX5_wanted_95 (hb) ?_
        refine mg_istore C dX5_wanted_96 rfl ?_
        refine mg_lve (lv' := [(0, _), (1, _), (2, _), (3, _), (4, _), (5, _), (6, _), (7, _)]) rfl ?_
        refine mg_iinc C dX5_wanted_98 rfl rfl ?_
        refine mg_lve (lv' := [(0, _), (1, _), (2, _), (3, _), (4, _), (5, _), (6, _), (7, _)]) rfl ?_
        refine mg_goto C 82 dX5_wanted_101 (by decide) ?_
        refine mg_lve (lv' := [(0, .ref (ad 17)), (1, .int (nI i)), (2, .int (nI c)), (3, .int z3), (4, .int z4), (5, .int z5), (6, .int (y / (g 2 + 1))), (7, .int (nI u))]) (by rw [show nI (u + 1) + Int32.ofInt (-1) = nI u from pk_m1 u]) ?_
        exact ih u _ (by omega) (by omega) ha
  refine mg_aload_n C dX5_wanted_0 rfl ?_
  refine mg_get C inG_X5 fX5_35 (ci := 5) rfl rfl 17 rfl rfl dX5_wanted_1 ?_
  refine mg_bipush (v := 12) C dX5_wanted_4 (by decide) ?_
  refine mg_iload_n C dX5_wanted_6 rfl ?_
  refine mg_imul C dX5_wanted_7 ?_
  refine mg_iload_n C dX5_wanted_8 rfl ?_
  refine mg_iconst (v := 2) C dX5_wanted_9 (by decide) ?_
  refine mg_aload_n C dX5_wanted_10 rfl ?_
  refine mg_get C inG_X5 fX5_88 (ci := 5) rfl rfl 17 rfl rfl dX5_wanted_11 ?_
  refine mg_imul C dX5_wanted_14 ?_
  refine mg_idiv C dX5_wanted_15 (h2d) ?_
  refine mg_iadd C dX5_wanted_16 ?_
  refine mg_tos (w := .int (nI (i * 12 + c / (2 * D)))) (by rw [e2d, pk_div (by omega) (by omega) (by omega), Int32.mul_comm, nu_eq]) ?_
  refine mg_iald C 12 rfl (hinn) dX5_wanted_17 ?_
  refine mg_tos (w := .int (a 4 (i * 12 + c / (2 * D)))) (by rw [nI_clamp (by omega)]) ?_
  refine mg_istore_n C dX5_wanted_18 rfl ?_
  refine mg_lve (lv' := [(0, _), (1, _), (2, _), (3, _)]) rfl ?_
  refine mg_iload_n C dX5_wanted_19 rfl ?_
  refine mg_iconst (v := 2) C dX5_wanted_20 (by decide) ?_
  refine mg_aload_n C dX5_wanted_21 rfl ?_
  refine mg_get C inG_X5 fX5_88 (ci := 5) rfl rfl 17 rfl rfl dX5_wanted_22 ?_
  refine mg_imul C dX5_wanted_25 ?_
  refine mg_irem C dX5_wanted_26 (h2d) ?_
  refine mg_tos (w := .int (nI (c % (2 * D)))) (by rw [e2d, pk_rem (by omega) (by omega) (by omega)]) ?_
  refine mg_istore C dX5_wanted_27 rfl ?_
  refine mg_lve (lv' := [(0, _), (1, _), (2, _), (3, _), (4, _)]) rfl ?_
  refine mg_iload C dX5_wanted_29 rfl ?_
  refine mg_aload_n C dX5_wanted_31 rfl ?_
  refine mg_get C inG_X5 fX5_88 (ci := 5) rfl rfl 17 rfl rfl dX5_wanted_32 ?_
  refine mg_icmp_lt C 42 dX5_wanted_35 (by decide) (fun h35 => ?_) (fun h35 => ?_)
  · have hdD : c % (2 * D) < D := (by rw [d6] at h35; exact (nI_ltI (by omega) (by omega)).mp h35)
    refine mg_iconst (v := 0) C dX5_wanted_42 (by decide) ?_
    refine mg_istore C dX5_wanted_43 rfl ?_
    refine mg_lve (lv' := [(0, _), (1, _), (2, _), (3, _), (4, _), (5, _)]) rfl ?_
    refine mg_iload_n C dX5_wanted_45 rfl ?_
    refine mg_if_ge C 53 dX5_wanted_46 (by decide) (fun h46 => ?_) (fun h46 => ?_)
    · have hv0 : ¬ a 4 (i * 12 + c / (2 * D)) < 0 := Int32.not_lt.mpr h46
      refine mg_iconst (v := 0) C dX5_wanted_53 (by decide) ?_
      refine mg_iload C dX5_wanted_54 rfl ?_
      refine mg_icmp_eq C 61 dX5_wanted_56 (by decide) (fun h56 => ?_) (fun h56 => absurd h56 (fun hh => hh rfl))
      refine mg_iload_n C dX5_wanted_61 rfl ?_
      refine mg_if_ge C 70 dX5_wanted_62 (by decide) (fun h62 => ?_) (fun h62 => absurd h62 (fun hh => hh h46))
      refine mg_iload_n C dX5_wanted_70 rfl ?_
      refine mg_istore C dX5_wanted_71 rfl ?_
      refine mg_lve (lv' := [(0, _), (1, _), (2, _), (3, _), (4, _), (5, _), (6, _)]) rfl ?_
      refine mg_iload C dX5_wanted_73 rfl ?_
      refine mg_aload_n C dX5_wanted_75 rfl ?_
      refine mg_get C inG_X5 fX5_88 (ci := 5) rfl rfl 17 rfl rfl dX5_wanted_76 ?_
      refine mg_irem C dX5_wanted_79 (hd0) ?_
      refine mg_tos (w := .int (nI (c % (2 * D) % D))) (by rw [d6, pk_rem (by omega) (by omega) (by omega)]) ?_
      refine mg_istore C dX5_wanted_80 rfl ?_
      refine mg_lve (lv' := [(0, _), (1, _), (2, _), (3, _), (4, _), (5, _), (6, _), (7, _)]) rfl ?_
      exact loop _ _ _ _ (by rw [wtI, if_neg hv0, if_pos hdD]) (c % (2 * D) % D + 1) (c % (2 * D) % D) _ (by omega) (by omega) rfl
    · have hv0 : a 4 (i * 12 + c / (2 * D)) < 0 := Int32.not_le.mp h46
      refine mg_iconst (v := 1) C dX5_wanted_49 (by decide) ?_
      refine mg_goto C 54 dX5_wanted_50 (by decide) ?_
      refine mg_iload C dX5_wanted_54 rfl ?_
      refine mg_icmp_eq C 61 dX5_wanted_56 (by decide) (fun h56 => absurd h56 (by decide)) (fun h56 => ?_)
      refine mg_iconst (v := 0) C dX5_wanted_59 (by decide) ?_
      exact mg_iret C hQ dX5_wanted_60 (⟨by rw [wtI, if_pos hv0, if_pos hdD], rfl⟩)
  · have hdD : ¬ c % (2 * D) < D := (by intro hh; exact h35 (by rw [d6]; exact nI_lt hh (by omega)))
    refine mg_iconst (v := 1) C dX5_wanted_38 (by decide) ?_
    refine mg_goto C 43 dX5_wanted_39 (by decide) ?_
    refine mg_istore C dX5_wanted_43 rfl ?_
    refine mg_lve (lv' := [(0, _), (1, _), (2, _), (3, _), (4, _), (5, _)]) rfl ?_
    refine mg_iload_n C dX5_wanted_45 rfl ?_
    refine mg_if_ge C 53 dX5_wanted_46 (by decide) (fun h46 => ?_) (fun h46 => ?_)
    · have hv0 : ¬ a 4 (i * 12 + c / (2 * D)) < 0 := Int32.not_lt.mpr h46
      refine mg_iconst (v := 0) C dX5_wanted_53 (by decide) ?_
      refine mg_iload C dX5_wanted_54 rfl ?_
      refine mg_icmp_eq C 61 dX5_wanted_56 (by decide) (fun h56 => absurd h56 (by decide)) (fun h56 => ?_)
      refine mg_iconst (v := 0) C dX5_wanted_59 (by decide) ?_
      exact mg_iret C hQ dX5_wanted_60 (⟨by rw [wtI, if_neg hv0, if_neg hdD], rfl⟩)
    · have hv0 : a 4 (i * 12 + c / (2 * D)) < 0 := Int32.not_le.mp h46
      refine mg_iconst (v := 1) C dX5_wanted_49 (by decide) ?_
      refine mg_goto C 54 dX5_wanted_50 (by decide) ?_
      refine mg_iload C dX5_wanted_54 rfl ?_
      refine mg_icmp_eq C 61 dX5_wanted_56 (by decide) (fun h56 => ?_) (fun h56 => absurd h56 (fun hh => hh rfl))
      refine mg_iload_n C dX5_wanted_61 rfl ?_
      refine mg_if_ge C 70 dX5_wanted_62 (by decide) (fun h62 => absurd h62 (h46)) (fun h62 => ?_)
      refine mg_iload_n C dX5_wanted_65 rfl ?_
      refine mg_ineg C dX5_wanted_66 ?_
      refine mg_goto C 71 dX5_wanted_67 (by decide) ?_
      refine mg_istore C dX5_wanted_71 rfl ?_
      refine mg_lve (lv' := [(0, _), (1, _), (2, _), (3, _), (4, _), (5, _), (6, _)]) rfl ?_
      refine mg_iload C dX5_wanted_73 rfl ?_
      refine mg_aload_n C dX5_wanted_75 rfl ?_
      refine mg_get C inG_X5 fX5_88 (ci := 5) rfl rfl 17 rfl rfl dX5_wanted_76 ?_
      refine mg_irem C dX5_wanted_79 (hd0) ?_
      refine mg_tos (w := .int (nI (c % (2 * D) % D))) (by rw [d6, pk_rem (by omega) (by omega) (by omega)]) ?_
      refine mg_istore C dX5_wanted_80 rfl ?_
      refine mg_lve (lv' := [(0, _), (1, _), (2, _), (3, _), (4, _), (5, _), (6, _), (7, _)]) rfl ?_
      exact loop _ _ _ _ (by rw [wtI, if_pos hv0, if_neg hdD]) (c % (2 * D) % D + 1) (c % (2 * D) % D) _ (by omega) (by omega) rfl
set_option maxHeartbeats 400000 in
set_option maxRecDepth 100000 in
theorem mv_lay (E : En) (ad : Nat → Nat) (g : Nat → Int32) (a : Nat → Nat → Int32) (v : Nat → Int64) (tl : va_W) (hV : MO g a) : Ct E mX5_lay 1 0 0 [.ref (ad 17)] (mw E ad g a v tl) (fun o w => ∃ (r : Int32) (ad1 : Nat → Nat) (g1 : Nat → Int32) (a1 : Nat → Nat → Int32) (v1 : Nat → Int64), o = some (.int r) ∧ Sh (sLay g) a g1 a1 ∧ MO g1 a1 ∧ ad1 17 = ad 17 ∧ w = mw E ad1 g1 a1 v1 tl) := by
  refine Ct.of (by decide) (Nat.le_of_ble_eq_true rfl) (fun X C hQ hin => ?_)
  have C : Cx E X cX5_lay 4 RX5 (some .int) 1 40 0 0 := C
  obtain ⟨R, Cc, T, n, m, D, F, ⟨⟨d0, d0a, d0b⟩, ⟨d1, d1a, d1b⟩, ⟨d2, d2a, d2b⟩, ⟨d4, d4a⟩, d5, ⟨d6, d6a⟩, dcm, dn0, dn1⟩, ⟨dF, dF1, dF2⟩, drow, dout⟩ := id hV.1
  have hd : Dim g R Cc T n m D := ⟨⟨d0, d0a, d0b⟩, ⟨d1, d1a, d1b⟩, ⟨d2, d2a, d2b⟩, ⟨d4, d4a⟩, d5, ⟨d6, d6a⟩, dcm, dn0, dn1⟩
  have inner : ∀ (i : Nat), i < n → (∀ (y : Int32) (a1 : Nat → Nat → Int32), KM a a1 → GG E X (mw E ad g a1 v tl) 0 0 77 [(0, .ref (ad 17)), (1, .int y), (2, .int (nI i)), (3, .int (nI (2 * D * m)))] []) → ∀ (m1 c : Nat) (y : Int32) (a1 : Nat → Nat → Int32), 2 * D * m < c + m1 → c ≤ 2 * D * m → KM a a1 → GG E X (mw E ad g a1 v tl) 0 0 24 [(0, .ref (ad 17)), (1, .int y), (2, .int (nI i)), (3, .int (nI c))] [] := by
    intro i hiN out
    intro m1
    induction m1 with
    | zero => intro c y a1 hm hi; omega
    | succ m1 ih =>
      intro c y a1 hm hi hk
      refine mg_iload_n C dX5_lay_24 rfl ?_
      refine mg_iconst (v := 2) C dX5_lay_25 (by decide) ?_
      refine mg_aload_n C dX5_lay_26 rfl ?_
      refine mg_get C inG_X5 fX5_88 (ci := 5) rfl rfl 17 rfl rfl dX5_lay_27 ?_
      refine mg_imul C dX5_lay_30 ?_
      refine mg_aload_n C dX5_lay_31 rfl ?_
      refine mg_get C inG_X5 fX5_85 (ci := 5) rfl rfl 17 rfl rfl dX5_lay_32 ?_
      refine mg_imul C dX5_lay_35 ?_
      refine mg_tos (w := .int (nI (2 * D * m))) (by rw [uc_eq d6 d5]) ?_
      refine mg_icmp_ge C 77 dX5_lay_36 (by decide) (fun h36 => ?_) (fun h36 => ?_)
      · have hge : c = 2 * D * m := (by rcases Nat.lt_or_ge c (2 * D * m) with h | h; exact absurd (h36) (nI_ge h (by omega)); omega)
        rw [hge]
        exact out y a1 hk
      · have hlt : c < (2 * D * m) := (by rcases Nat.lt_or_ge c (2 * D * m) with h | h; exact h; exact absurd (nI_le h (by omega)) h36)
        have hin8 : vp_in (nI i) 8 := vp_in_nI (by omega) (by decide)
        obtain ⟨rr, hrr, err⟩ := drow i (by omega)
        have hin9 : vp_in (24 * nI rr + nI c) 192 := (by rw [pl_eq']; exact vp_in_nI (by omega) (by decide))
        refine mg_iload_n C dX5_lay_39 rfl ?_
        refine mg_aload_n C dX5_lay_40 rfl ?_
        refine mg_bipush (v := 24) C dX5_lay_41 (by decide) ?_
        refine mg_aload_n C dX5_lay_43 rfl ?_
        refine mg_get C inG_X5 fX5_38 (ci := 5) rfl rfl 17 rfl rfl dX5_lay_44 ?_
        refine mg_iload_n C dX5_lay_47 rfl ?_
        refine mg_iald C 11 rfl (hin8) dX5_lay_48 ?_
        refine mg_tos (w := .int (nI rr)) (by rw [nI_clamp (by omega), hk.2.2.2.1, err]) ?_
        refine mg_imul C dX5_lay_49 ?_
        refine mg_iload_n C dX5_lay_50 rfl ?_
        refine mg_iadd C dX5_lay_51 ?_
        refine mg_aload_n C dX5_lay_52 rfl ?_
        refine mg_iload_n C dX5_lay_53 rfl ?_
        refine mg_iload_n C dX5_lay_54 rfl ?_
        refine mg_callV C (mx_X5_wanted E _ _ _ _ _ R Cc T n m D hd i c hiN hlt) oX5_129 17 rfl rfl rfl rfl rfl dX5_lay_55 (fun o55 w55 z55 => ?_)
        obtain ⟨rfl, rfl⟩ := z55
        refine mg_v ?_
        refine mg_callV C (ct_X5_writes E _ _ _ _ _ _ _ hin9) oX5_106 17 rfl rfl rfl rfl rfl dX5_lay_58 (fun o58 w58 z58 => ?_)
        obtain ⟨rfl, rfl⟩ := z58
        refine mg_v ?_
        refine mg_if_eq C 68 dX5_lay_61 (by decide) (fun h61 => ?_) (fun h61 => ?_)
        · refine mg_iconst (v := 1) C dX5_lay_68 (by decide) ?_
          refine mg_iadd C dX5_lay_69 ?_
          refine mg_istore_n C dX5_lay_70 rfl ?_
          refine mg_lve (lv' := [(0, _), (1, _), (2, _), (3, _)]) rfl ?_
          refine mg_iinc C dX5_lay_71 rfl rfl ?_
          refine mg_lve (lv' := [(0, _), (1, _), (2, _), (3, _)]) rfl ?_
          refine mg_goto C 24 dX5_lay_74 (by decide) ?_
          refine mg_lv (lv' := [(0, _), (1, _), (2, _), (3, _)]) (lv_tk 4 rfl) ?_
          rw [show nI c + Int32.ofInt 1 = nI (c + 1) from (nI_succ c).symm]
          exact ih (c + 1) _ _ (by omega) (by omega) (hk.tr wa_k)
        · refine mg_iconst (v := 0) C dX5_lay_64 (by decide) ?_
          refine mg_goto C 69 dX5_lay_65 (by decide) ?_
          refine mg_iadd C dX5_lay_69 ?_
          refine mg_istore_n C dX5_lay_70 rfl ?_
          refine mg_lve (lv' := [(0, _), (1, _), (2, _), (3, _)]) rfl ?_
          refine mg_iinc C dX5_lay_71 rfl rfl ?_
          refine mg_lve (lv' := [(0, _), (1, _), (2, _), (3, _)]) rfl ?_
          refine mg_goto C 24 dX5_lay_74 (by decide) ?_
          refine mg_lv (lv' := [(0, _), (1, _), (2, _), (3, _)]) (lv_tk 4 rfl) ?_
          rw [show nI c + Int32.ofInt 1 = nI (c + 1) from (nI_succ c).symm]
          exact ih (c + 1) _ _ (by omega) (by omega) (hk.tr wa_k)
  have loop : ¬ ex g = 0 → ∀ (m1 i : Nat) (y : Int32) (a1 : Nat → Nat → Int32), n < i + m1 → i ≤ n → KM a a1 → GG E X (mw E ad g a1 v tl) 0 0 14 [(0, .ref (ad 17)), (1, .int y), (2, .int (nI i))] [] := by
    intro hex
    intro m1
    induction m1 with
    | zero => intro i y a1 hm hi; omega
    | succ m1 ih =>
      intro i y a1 hm hi hk
      refine mg_iload_n C dX5_lay_14 rfl ?_
      refine mg_aload_n C dX5_lay_15 rfl ?_
      refine mg_get C inG_X5 fX5_82 (ci := 5) rfl rfl 17 rfl rfl dX5_lay_16 ?_
      refine mg_icmp_ge C 83 dX5_lay_19 (by decide) (fun h19 => ?_) (fun h19 => ?_)
      · refine mg_aload_n C dX5_lay_83 rfl ?_
        refine mg_iconst (v := 1) C dX5_lay_84 (by decide) ?_
        refine mg_put C inG_X5 fX5_91 (ci := 5) rfl rfl tyX5 tyX5_ok nmX5 rfl 17 rfl rfl rfl rfl dX5_lay_85 (ws' := (mw E ad (ug g 8 1) a1 v tl)) rfl ?_
        refine mg_iload_n C dX5_lay_88 rfl ?_
        exact mg_iret C hQ dX5_lay_89 (⟨_, ad, ug g 8 1, a1, v, rfl, by rw [sLay, if_neg hex]; exact hk.sh, (hk.mo hV).g8, rfl, rfl⟩)
      · have hlt : i < n := (by rcases Nat.lt_or_ge i n with h | h; exact h; exact absurd (by rw [d4]; exact nI_le h (by omega)) h19)
        refine mg_iconst (v := 0) C dX5_lay_22 (by decide) ?_
        refine mg_istore_n C dX5_lay_23 rfl ?_
        refine mg_lve (lv' := [(0, _), (1, _), (2, _), (3, _)]) rfl ?_
        refine inner i hlt (fun y1 a3 hk3 => ?_) (2 * D * m + 1) 0 y a1 (by omega) (by omega) hk
        refine mg_iinc C dX5_lay_77 rfl rfl ?_
        refine mg_goto C 14 dX5_lay_80 (by decide) ?_
        refine mg_lv (lv' := [(0, _), (1, _), (2, _)]) (lv_tk 3 rfl) ?_
        rw [show nI i + Int32.ofInt 1 = nI (i + 1) from (nI_succ i).symm]
        exact ih (i + 1) y1 a3 (by omega) (by omega) hk3
  refine mg_aload_n C dX5_lay_0 rfl ?_
  refine mg_callV C (ct_X5_hasTable E _ _ _ _ _) oX5_125 17 rfl rfl rfl rfl rfl dX5_lay_1 (fun o1 w1 z1 => ?_)
  obtain ⟨rfl, rfl⟩ := z1
  refine mg_v ?_
  refine mg_if_ne C 10 dX5_lay_4 (by decide) (fun h4 => ?_) (fun h4 => ?_)
  · refine mg_iconst (v := 0) C dX5_lay_10 (by decide) ?_
    refine mg_istore_n C dX5_lay_11 rfl ?_
    refine mg_lve (lv' := [(0, _), (1, _)]) rfl ?_
    refine mg_iconst (v := 0) C dX5_lay_12 (by decide) ?_
    refine mg_istore_n C dX5_lay_13 rfl ?_
    refine mg_lve (lv' := [(0, _), (1, _), (2, _)]) rfl ?_
    exact loop h4 (n + 1) 0 _ a (by omega) (by omega) KM.rf
  · refine mg_bipush (v := (-3)) C dX5_lay_7 (by decide) ?_
    exact mg_iret C hQ dX5_lay_9 (⟨_, ad, g, a, v, rfl, by rw [sLay, if_pos h4]; exact Sh.rf, hV, rfl, rfl⟩)
set_option maxHeartbeats 400000 in
set_option maxRecDepth 100000 in
theorem mx_X5_bitSum (E : En) (ad : Nat → Nat) (g : Nat → Int32) (a : Nat → Nat → Int32) (v : Nat → Int64) (tl : va_W) (n col : Nat) (b : Int32) (d4 : g 4 = nI n) (hn : n ≤ 8) (hcol : col < 24) (drow : ∀ i, i < 8 → ∃ r, r < 8 ∧ a 5 i = nI r) : Ct E mX5_bitSum 1 0 0 [.ref (ad 17), .int (nI col), .int b] (mw E ad g a v tl) (fun o w => ∃ r : Int64, o = some (.long r) ∧ w = mw E ad g a v tl) := by
  refine Ct.of (by decide) (Nat.le_of_ble_eq_true rfl) (fun X C hQ hin => ?_)
  have C : Cx E X cX5_bitSum 5 RX5 (some .long) 1 40 0 0 := C
  have loop : ∀ (m1 i : Nat) (y : Int32), n < i + m1 → i ≤ n → GG E X (mw E ad g a v tl) 0 0 5 [(0, .ref (ad 17)), (1, .int (nI col)), (2, .int b), (3, .int y), (4, .int (nI i))] [] := by
    intro m1
    induction m1 with
    | zero => intro i y hm hi; omega
    | succ m1 ih =>
      intro i y hm hi
      refine mg_iload C dX5_bitSum_5 rfl ?_
      refine mg_aload_n C dX5_bitSum_7 rfl ?_
      refine mg_get C inG_X5 fX5_82 (ci := 5) rfl rfl 17 rfl rfl dX5_bitSum_8 ?_
      refine mg_icmp_ge C 52 dX5_bitSum_11 (by decide) (fun h11 => ?_) (fun h11 => ?_)
      · refine mg_aload_n C dX5_bitSum_52 rfl ?_
        refine mg_iload_n C dX5_bitSum_53 rfl ?_
        refine mg_callV C (ct_X5_converted E _ _ _ _ _ _) oX5_117 17 rfl rfl rfl rfl rfl dX5_bitSum_54 (fun o54 w54 z54 => ?_)
        obtain ⟨rfl, rfl⟩ := z54
        refine mg_v ?_
        refine mg_i2l C dX5_bitSum_57 ?_
        exact mg_lret C hQ dX5_bitSum_58 (⟨_, rfl, rfl⟩)
      · have hlt : i < n := (by rcases Nat.lt_or_ge i n with h | h; exact h; exact absurd (by rw [d4]; exact nI_le h (by omega)) h11)
        have hin8 : vp_in (nI i) 8 := vp_in_nI (by omega) (by decide)
        obtain ⟨rr, hrr, err⟩ := drow i (by omega)
        have hin9 : vp_in (24 * nI rr + nI col) 192 := (by rw [pl_eq']; exact vp_in_nI (by omega) (by decide))
        refine mg_iload_n C dX5_bitSum_14 rfl ?_
        refine mg_aload_n C dX5_bitSum_15 rfl ?_
        refine mg_get C inG_X5 fX5_29 (ci := 5) rfl rfl 17 rfl rfl dX5_bitSum_16 ?_
        refine mg_iload C dX5_bitSum_19 rfl ?_
        refine mg_iald C 13 rfl (hin8) dX5_bitSum_21 ?_
        refine mg_iload_n C dX5_bitSum_22 rfl ?_
        refine mg_ishr C dX5_bitSum_23 ?_
        refine mg_iconst (v := 1) C dX5_bitSum_24 (by decide) ?_
        refine mg_iand C dX5_bitSum_25 ?_
        refine mg_aload_n C dX5_bitSum_26 rfl ?_
        refine mg_get C inG_X5 fX5_19 (ci := 5) rfl rfl 17 rfl rfl dX5_bitSum_27 ?_
        refine mg_bipush (v := 24) C dX5_bitSum_30 (by decide) ?_
        refine mg_aload_n C dX5_bitSum_32 rfl ?_
        refine mg_get C inG_X5 fX5_38 (ci := 5) rfl rfl 17 rfl rfl dX5_bitSum_33 ?_
        refine mg_iload C dX5_bitSum_36 rfl ?_
        refine mg_iald C 11 rfl (hin8) dX5_bitSum_38 ?_
        refine mg_tos (w := .int (nI rr)) (by rw [nI_clamp (by omega), err]) ?_
        refine mg_imul C dX5_bitSum_39 ?_
        refine mg_iload_n C dX5_bitSum_40 rfl ?_
        refine mg_iadd C dX5_bitSum_41 ?_
        refine mg_iald C 16 rfl (hin9) dX5_bitSum_42 ?_
        refine mg_imul C dX5_bitSum_43 ?_
        refine mg_iadd C dX5_bitSum_44 ?_
        refine mg_istore_n C dX5_bitSum_45 rfl ?_
        refine mg_lve (lv' := [(0, _), (1, _), (2, _), (3, _), (4, _)]) rfl ?_
        refine mg_iinc C dX5_bitSum_46 rfl rfl ?_
        refine mg_lve (lv' := [(0, _), (1, _), (2, _), (3, _), (4, _)]) rfl ?_
        refine mg_goto C 5 dX5_bitSum_49 (by decide) ?_
        rw [show nI i + Int32.ofInt 1 = nI (i + 1) from (nI_succ i).symm]
        exact ih (i + 1) _ (by omega) (by omega)
  refine mg_iconst (v := 0) C dX5_bitSum_0 (by decide) ?_
  refine mg_istore_n C dX5_bitSum_1 rfl ?_
  refine mg_lve (lv' := [(0, _), (1, _), (2, _), (3, _)]) rfl ?_
  refine mg_iconst (v := 0) C dX5_bitSum_2 (by decide) ?_
  refine mg_istore C dX5_bitSum_3 rfl ?_
  refine mg_lve (lv' := [(0, _), (1, _), (2, _), (3, _), (4, _)]) rfl ?_
  exact loop (n + 1) 0 _ (by omega) (by omega)
set_option maxHeartbeats 400000 in
set_option maxRecDepth 100000 in
theorem mv_product (E : En) (ad : Nat → Nat) (g : Nat → Int32) (a : Nat → Nat → Int32) (v : Nat → Int64) (tl : va_W) (k : Int32) (hV : MO g a) : Ct E mX5_product 2 0 0 [.ref (ad 17), .int k] (mw E ad g a v tl) (fun o w => ∃ (r : Int64) (ad1 : Nat → Nat) (g1 : Nat → Int32) (a1 : Nat → Nat → Int32) (v1 : Nat → Int64), o = some (.long r) ∧ Sh g a g1 a1 ∧ MO g1 a1 ∧ ad1 17 = ad 17 ∧ w = mw E ad1 g1 a1 v1 tl) := by
  refine Ct.of (by decide) (Nat.le_of_ble_eq_true rfl) (fun X C hQ hin => ?_)
  have C : Cx E X cX5_product 9 RX5 (some .long) 2 80 0 0 := C
  obtain ⟨R, Cc, T, n, m, D, F, ⟨⟨d0, d0a, d0b⟩, ⟨d1, d1a, d1b⟩, ⟨d2, d2a, d2b⟩, ⟨d4, d4a⟩, d5, ⟨d6, d6a⟩, dcm, dn0, dn1⟩, ⟨dF, dF1, dF2⟩, drow, dout⟩ := id hV.1
  have inner : ∀ (k b : Nat), k < m → (∀ (y z : Int64), GG E X (mw E ad g a v tl) 0 0 114 [(0, .ref (ad 17)), (1, .int (nI k)), (2, .long y), (4, .int (nI b)), (5, .long z), (7, .int (nI D))] []) → ∀ (m1 j : Nat) (y z : Int64), D < j + m1 → j ≤ D → GG E X (mw E ad g a v tl) 0 0 46 [(0, .ref (ad 17)), (1, .int (nI k)), (2, .long y), (4, .int (nI b)), (5, .long z), (7, .int (nI j))] [] := by
    intro k b hkm out
    intro m1
    induction m1 with
    | zero => intro j y z hm hi; omega
    | succ m1 ih =>
      intro j y z hm hi
      refine mg_iload C dX5_product_46 rfl ?_
      refine mg_aload_n C dX5_product_48 rfl ?_
      refine mg_get C inG_X5 fX5_88 (ci := 5) rfl rfl 17 rfl rfl dX5_product_49 ?_
      refine mg_icmp_ge C 114 dX5_product_52 (by decide) (fun h52 => ?_) (fun h52 => ?_)
      · have hge : j = D := (by rcases Nat.lt_or_ge j D with h | h; exact absurd (by rw [d6] at h52; exact h52) (nI_ge h (by omega)); omega)
        subst hge
        refine mg_lv (lv' := [(0, _), (1, _), (2, _), (4, _), (5, _), (7, _)]) (lv_tk 6 rfl) ?_
        exact out y z
      · have hlt : j < D := (by rcases Nat.lt_or_ge j D with h | h; exact h; exact absurd (by rw [d6]; exact nI_le h (by omega)) h52)
        refine mg_iconst (v := 2) C dX5_product_55 (by decide) ?_
        refine mg_aload_n C dX5_product_56 rfl ?_
        refine mg_get C inG_X5 fX5_88 (ci := 5) rfl rfl 17 rfl rfl dX5_product_57 ?_
        refine mg_imul C dX5_product_60 ?_
        refine mg_iload_n C dX5_product_61 rfl ?_
        refine mg_imul C dX5_product_62 ?_
        refine mg_iload C dX5_product_63 rfl ?_
        refine mg_iadd C dX5_product_65 ?_
        refine mg_tos (w := .int (nI (2 * D * k + 0 + j))) (by rw [d6, show (2 : Int32) = nI 2 from rfl, pk_mul, pk_mul, nI_add, Nat.add_zero]) ?_
        refine mg_istore C dX5_product_66 rfl ?_
        refine mg_lve (lv' := [(0, _), (1, _), (2, _), (4, _), (5, _), (7, _), (8, _)]) rfl ?_
        refine mg_lload_n C dX5_product_68 rfl ?_
        refine mg_lload C dX5_product_69 rfl ?_
        refine mg_aload_n C dX5_product_71 rfl ?_
        refine mg_iload C dX5_product_72 rfl ?_
        refine mg_iload C dX5_product_74 rfl ?_
        refine mg_callV C (mx_X5_bitSum E _ _ _ _ _ n (2 * D * k + 0 + j) _ d4 (by omega) (Nat.lt_of_lt_of_le (uc_in (C := Cc) hkm hlt (Or.inl rfl) dcm) d1b) drow) oX5_134 17 rfl rfl rfl rfl rfl dX5_product_76 (fun o76 w76 z76 => ?_)
        obtain ⟨r1, rfl, rfl⟩ := z76
        refine mg_v ?_
        refine mg_aload_n C dX5_product_79 rfl ?_
        refine mg_iload C dX5_product_80 rfl ?_
        refine mg_aload_n C dX5_product_82 rfl ?_
        refine mg_get C inG_X5 fX5_88 (ci := 5) rfl rfl 17 rfl rfl dX5_product_83 ?_
        refine mg_iadd C dX5_product_86 ?_
        refine mg_tos (w := .int (nI (2 * D * k + D + j))) (by rw [d6, nI_add]; congr 2; omega) ?_
        refine mg_iload C dX5_product_87 rfl ?_
        refine mg_callV C (mx_X5_bitSum E _ _ _ _ _ n (2 * D * k + D + j) _ d4 (by omega) (Nat.lt_of_lt_of_le (uc_in (C := Cc) hkm hlt (Or.inr rfl) dcm) d1b) drow) oX5_134 17 rfl rfl rfl rfl rfl dX5_product_89 (fun o89 w89 z89 => ?_)
        obtain ⟨r2, rfl, rfl⟩ := z89
        refine mg_v ?_
        refine mg_lsub C dX5_product_92 ?_
        refine mg_lmul C dX5_product_93 ?_
        refine mg_ladd C dX5_product_94 ?_
        refine mg_lstore_n C dX5_product_95 rfl ?_
        refine mg_lve (lv' := [(0, _), (1, _), (2, _), (4, _), (5, _), (7, _), (8, _)]) rfl ?_
        refine mg_lload C dX5_product_96 rfl ?_
        refine mg_aload_n C dX5_product_98 rfl ?_
        refine mg_get C inG_X5 fX5_16 (ci := 5) rfl rfl 17 rfl rfl dX5_product_99 ?_
        refine mg_iconst (v := 1) C dX5_product_102 (by decide) ?_
        refine mg_iadd C dX5_product_103 ?_
        refine mg_i2l C dX5_product_104 ?_
        refine mg_lmul C dX5_product_105 ?_
        refine mg_lstore C dX5_product_106 rfl ?_
        refine mg_lve (lv' := [(0, _), (1, _), (2, _), (4, _), (5, _), (7, _), (8, _)]) rfl ?_
        refine mg_iinc C dX5_product_108 rfl rfl ?_
        refine mg_lve (lv' := [(0, _), (1, _), (2, _), (4, _), (5, _), (7, _), (8, _)]) rfl ?_
        refine mg_goto C 46 dX5_product_111 (by decide) ?_
        refine mg_lv (lv' := [(0, _), (1, _), (2, _), (4, _), (5, _), (7, _)]) (lv_tk 6 rfl) ?_
        rw [show nI j + Int32.ofInt 1 = nI (j + 1) from (nI_succ j).symm]
        exact ih (j + 1) _ _ (by omega) (by omega)
  have loop : ∀ (k : Nat), k < m → ∀ (m1 b : Nat) (y : Int64), 8 < b + m1 → b ≤ 8 → GG E X (mw E ad g a v tl) 0 0 30 [(0, .ref (ad 17)), (1, .int (nI k)), (2, .long y), (4, .int (nI b))] [] := by
    intro k hkm
    intro m1
    induction m1 with
    | zero => intro b y hm hi; omega
    | succ m1 ih =>
      intro b y hm hi
      refine mg_iload C dX5_product_30 rfl ?_
      refine mg_bipush (v := 8) C dX5_product_32 (by decide) ?_
      refine mg_icmp_ge C 120 dX5_product_34 (by decide) (fun h34 => ?_) (fun h34 => ?_)
      · refine mg_lload_n C dX5_product_120 rfl ?_
        exact mg_lret C hQ dX5_product_121 (⟨_, ad, g, a, v, rfl, Sh.rf, hV, rfl, rfl⟩)
      · have hlt : b < 8 := (by rcases Nat.lt_or_ge b 8 with h | h; exact h; exact absurd (show (8 : Int32) ≤ nI b from nI_le (a := 8) h (by omega)) h34)
        refine mg_lconst (v := 1) C dX5_product_37 (by decide) ?_
        refine mg_iload C dX5_product_38 rfl ?_
        refine mg_lshl C dX5_product_40 ?_
        refine mg_lstore C dX5_product_41 rfl ?_
        refine mg_lve (lv' := [(0, _), (1, _), (2, _), (4, _), (5, _)]) rfl ?_
        refine mg_iconst (v := 0) C dX5_product_43 (by decide) ?_
        refine mg_istore C dX5_product_44 rfl ?_
        refine mg_lve (lv' := [(0, _), (1, _), (2, _), (4, _), (5, _), (7, _)]) rfl ?_
        refine inner k b hkm (fun y1 z1 => ?_) (D + 1) 0 _ _ (by omega) (by omega)
        refine mg_iinc C dX5_product_114 rfl rfl ?_
        refine mg_goto C 30 dX5_product_117 (by decide) ?_
        refine mg_lv (lv' := [(0, _), (1, _), (2, _), (4, _)]) (lv_tk 4 rfl) ?_
        rw [show nI b + Int32.ofInt 1 = nI (b + 1) from (nI_succ b).symm]
        exact ih (b + 1) _ (by omega) (by omega)
  refine mg_iload_n C dX5_product_0 rfl ?_
  refine mg_iconst (v := 0) C dX5_product_1 (by decide) ?_
  refine mg_aload_n C dX5_product_2 rfl ?_
  refine mg_get C inG_X5 fX5_85 (ci := 5) rfl rfl 17 rfl rfl dX5_product_3 ?_
  refine mg_iconst (v := 1) C dX5_product_6 (by decide) ?_
  refine mg_isub C dX5_product_7 ?_
  refine mg_callS C (ct_X5_in E _ _ _ _) oX5_98 rfl rfl rfl dX5_product_8 (fun o8 w8 z8 => ?_)
  obtain ⟨rfl, rfl⟩ := z8
  refine mg_v ?_
  refine mg_if_eq C 21 dX5_product_11 (by decide) (fun h11 => ?_) (fun h11 => ?_)
  · refine mg_ldc2 C dX5_product_21 kX5_132 ?_
    exact mg_lret C hQ dX5_product_24 (⟨_, ad, g, a, v, rfl, Sh.rf, hV, rfl, rfl⟩)
  · refine mg_aload_n C dX5_product_14 rfl ?_
    refine mg_get C inG_X5 fX5_91 (ci := 5) rfl rfl 17 rfl rfl dX5_product_15 ?_
    refine mg_if_ne C 25 dX5_product_18 (by decide) (fun h18 => ?_) (fun h18 => ?_)
    · refine mg_lconst (v := 0) C dX5_product_25 (by decide) ?_
      refine mg_lstore_n C dX5_product_26 rfl ?_
      refine mg_lve (lv' := [(0, _), (1, _), (2, _)]) rfl ?_
      refine mg_iconst (v := 0) C dX5_product_27 (by decide) ?_
      refine mg_istore C dX5_product_28 rfl ?_
      refine mg_lve (lv' := [(0, _), (1, _), (2, _), (4, _)]) rfl ?_
      obtain ⟨kk, ekk, hkk⟩ := wi_in d5 (by rcases Nat.eq_zero_or_pos n with e | e; rw [dn0 e]; omega; have q := m12 (n := n) dcm d1b (dn1 (by omega)).1; omega) h11
      subst ekk
      exact loop kk hkk 9 0 _ (by omega) (by omega)
    · refine mg_ldc2 C dX5_product_21 kX5_132 ?_
      exact mg_lret C hQ dX5_product_24 (⟨_, ad, g, a, v, rfl, Sh.rf, hV, rfl, rfl⟩)
set_option maxHeartbeats 400000 in
set_option maxRecDepth 100000 in
theorem mv_due (E : En) (ad : Nat → Nat) (g : Nat → Int32) (a : Nat → Nat → Int32) (v : Nat → Int64) (tl : va_W) (kx : Int32) (hV : MO g a) : Ct E mX5_due 1 0 0 [.ref (ad 17), .int kx] (mw E ad g a v tl) (fun o w => ∃ (ad1 : Nat → Nat) (g1 : Nat → Int32) (a1 : Nat → Nat → Int32) (v1 : Nat → Int64), o = some (.long (gDue g a kx)) ∧ Sh g a g1 a1 ∧ MO g1 a1 ∧ ad1 17 = ad 17 ∧ w = mw E ad1 g1 a1 v1 tl) := by
  refine Ct.of (by decide) (Nat.le_of_ble_eq_true rfl) (fun X C hQ hin => ?_)
  have C : Cx E X cX5_due 5 RX5 (some .long) 1 40 0 0 := C
  obtain ⟨R, Cc, T, n, m, D, F, ⟨⟨d0, d0a, d0b⟩, ⟨d1, d1a, d1b⟩, ⟨d2, d2a, d2b⟩, ⟨d4, d4a⟩, d5, ⟨d6, d6a⟩, dcm, dn0, dn1⟩, ⟨dF, dF1, dF2⟩, drow, dout⟩ := id hV.1
  have loop : ∀ (k : Nat), k < 12 → kx = nI k → ¬ wi (nI k) 0 (g 5 - 1) = 0 → ∀ (m1 i : Nat), n < i + m1 → i ≤ n → GG E X (mw E ad g a v tl) 0 0 23 [(0, .ref (ad 17)), (1, .int (nI k)), (2, .long (dueS a k i)), (4, .int (nI i))] [] := by
    intro k hk12 hkx hw
    intro m1
    induction m1 with
    | zero => intro i hm hi; omega
    | succ m1 ih =>
      intro i hm hi
      refine mg_iload C dX5_due_23 rfl ?_
      refine mg_aload_n C dX5_due_25 rfl ?_
      refine mg_get C inG_X5 fX5_82 (ci := 5) rfl rfl 17 rfl rfl dX5_due_26 ?_
      refine mg_icmp_ge C 63 dX5_due_29 (by decide) (fun h29 => ?_) (fun h29 => ?_)
      · have hge : i = n := (by rcases Nat.lt_or_ge i n with h | h; exact absurd (by rw [d4] at h29; exact h29) (nI_ge h (by omega)); omega)
        subst hge
        refine mg_lload_n C dX5_due_63 rfl ?_
        exact mg_lret C hQ dX5_due_64 (⟨ad, g, a, v, by rw [gDue, hkx, if_neg hw, d4, nI_clamp (by omega), nI_clamp (by omega)], Sh.rf, hV, rfl, rfl⟩)
      · have hlt : i < n := (by rcases Nat.lt_or_ge i n with h | h; exact h; exact absurd (by rw [d4]; exact nI_le h (by omega)) h29)
        have hin8 : vp_in (nI i) 8 := vp_in_nI (by omega) (by decide)
        have hinn : vp_in (nI (i * 12 + k)) 96 := vp_in_nI (by omega) (by decide)
        refine mg_lload_n C dX5_due_32 rfl ?_
        refine mg_aload_n C dX5_due_33 rfl ?_
        refine mg_get C inG_X5 fX5_29 (ci := 5) rfl rfl 17 rfl rfl dX5_due_34 ?_
        refine mg_iload C dX5_due_37 rfl ?_
        refine mg_iald C 13 rfl (hin8) dX5_due_39 ?_
        refine mg_i2l C dX5_due_40 ?_
        refine mg_aload_n C dX5_due_41 rfl ?_
        refine mg_get C inG_X5 fX5_35 (ci := 5) rfl rfl 17 rfl rfl dX5_due_42 ?_
        refine mg_bipush (v := 12) C dX5_due_45 (by decide) ?_
        refine mg_iload C dX5_due_47 rfl ?_
        refine mg_imul C dX5_due_49 ?_
        refine mg_iload_n C dX5_due_50 rfl ?_
        refine mg_iadd C dX5_due_51 ?_
        refine mg_tos (w := .int (nI (i * 12 + k))) (by rw [nu_eq']) ?_
        refine mg_iald C 12 rfl (hinn) dX5_due_52 ?_
        refine mg_i2l C dX5_due_53 ?_
        refine mg_lmul C dX5_due_54 ?_
        refine mg_ladd C dX5_due_55 ?_
        refine mg_lstore_n C dX5_due_56 rfl ?_
        refine mg_lve (lv' := [(0, _), (1, _), (2, _), (4, _)]) rfl ?_
        refine mg_iinc C dX5_due_57 rfl rfl ?_
        refine mg_lve (lv' := [(0, _), (1, _), (2, _), (4, _)]) rfl ?_
        refine mg_goto C 23 dX5_due_60 (by decide) ?_
        refine mg_lve (lv' := [(0, .ref (ad 17)), (1, .int (nI k)), (2, .long (dueS a k (i + 1))), (4, .int (nI (i + 1)))]) (by rw [nI_succ i, dueS, nI_clamp (by omega), nI_clamp (by omega)]; rfl) ?_
        exact ih (i + 1) (by omega) (by omega)
  refine mg_iload_n C dX5_due_0 rfl ?_
  refine mg_iconst (v := 0) C dX5_due_1 (by decide) ?_
  refine mg_aload_n C dX5_due_2 rfl ?_
  refine mg_get C inG_X5 fX5_85 (ci := 5) rfl rfl 17 rfl rfl dX5_due_3 ?_
  refine mg_iconst (v := 1) C dX5_due_6 (by decide) ?_
  refine mg_isub C dX5_due_7 ?_
  refine mg_callS C (ct_X5_in E _ _ _ _) oX5_98 rfl rfl rfl dX5_due_8 (fun o8 w8 z8 => ?_)
  obtain ⟨rfl, rfl⟩ := z8
  refine mg_v ?_
  refine mg_if_ne C 18 dX5_due_11 (by decide) (fun h11 => ?_) (fun h11 => ?_)
  · refine mg_lconst (v := 0) C dX5_due_18 (by decide) ?_
    refine mg_lstore_n C dX5_due_19 rfl ?_
    refine mg_lve (lv' := [(0, _), (1, _), (2, _)]) rfl ?_
    refine mg_iconst (v := 0) C dX5_due_20 (by decide) ?_
    refine mg_istore C dX5_due_21 rfl ?_
    refine mg_lve (lv' := [(0, _), (1, _), (2, _), (4, _)]) rfl ?_
    have hm12 : m ≤ 12 := (by rcases Nat.eq_zero_or_pos n with e | e; rw [dn0 e]; omega; have q := m12 (n := n) dcm d1b (dn1 (by omega)).1; omega)
    obtain ⟨kk, ekk, hkk⟩ := wi_in d5 (by omega) h11
    subst ekk
    exact loop kk (by omega) rfl h11 (n + 1) 0 (by omega) (by omega)
  · refine mg_ldc2 C dX5_due_14 kX5_132 ?_
    exact mg_lret C hQ dX5_due_17 (⟨ad, g, a, v, by rw [gDue, if_pos h11], Sh.rf, hV, rfl, rfl⟩)
set_option maxHeartbeats 400000 in
set_option maxRecDepth 100000 in
theorem mv_enough (E : En) (ad : Nat → Nat) (g : Nat → Int32) (a : Nat → Nat → Int32) (v : Nat → Int64) (tl : va_W) (hV : MO g a) : Ct E mX5_enough 1 0 0 [.ref (ad 17)] (mw E ad g a v tl) (fun o w => ∃ (ad1 : Nat → Nat) (g1 : Nat → Int32) (a1 : Nat → Nat → Int32) (v1 : Nat → Int64), o = some (.int (gEn g)) ∧ Sh g a g1 a1 ∧ MO g1 a1 ∧ ad1 17 = ad 17 ∧ w = mw E ad1 g1 a1 v1 tl) := by
  refine Ct.of (by decide) (Nat.le_of_ble_eq_true rfl) (fun X C hQ hin => ?_)
  have C : Cx E X cX5_enough 2 RX5 (some .int) 1 40 0 0 := C
  obtain ⟨R, Cc, T, n, m, D, F, ⟨⟨d0, d0a, d0b⟩, ⟨d1, d1a, d1b⟩, ⟨d2, d2a, d2b⟩, ⟨d4, d4a⟩, d5, ⟨d6, d6a⟩, dcm, dn0, dn1⟩, ⟨dF, dF1, dF2⟩, drow, dout⟩ := id hV.1
  obtain ⟨q, hq⟩ : ∃ q, n * T = q := ⟨_, rfl⟩
  have hq2 : q ≤ 120 := (by rw [← hq]; exact Nat.le_trans (Nat.mul_le_mul (by omega : n ≤ 8) d2b) (by omega))
  have loop : ¬ ex g = 0 → ∀ (m1 b : Nat), 7 < b + m1 → b ≤ 7 → 1 ≤ b → eb q (16 - b) b = eb q 15 1 → GG E X (mw E ad g a v tl) 0 0 12 [(0, .ref (ad 17)), (1, .int (nI b))] [] := by
    intro hex
    intro m1
    induction m1 with
    | zero => intro b hm hi; omega
    | succ m1 ih =>
      intro b hm hi hb1 he
      have hmb := mb_lt (b := b) (by omega)
      refine mg_iconst (v := 1) C dX5_enough_12 (by decide) ?_
      refine mg_iload_n C dX5_enough_13 rfl ?_
      refine mg_ishl C dX5_enough_14 ?_
      refine mg_iconst (v := 1) C dX5_enough_15 (by decide) ?_
      refine mg_isub C dX5_enough_16 ?_
      refine mg_tos (w := .int (nI (2 ^ b - 1))) (congrArg Value.int (mb_eq (by omega))) ?_
      refine mg_aload_n C dX5_enough_17 rfl ?_
      refine mg_get C inG_X5 fX5_82 (ci := 5) rfl rfl 17 rfl rfl dX5_enough_18 ?_
      refine mg_aload_n C dX5_enough_21 rfl ?_
      refine mg_get C inG_X5 fX5_16 (ci := 5) rfl rfl 17 rfl rfl dX5_enough_22 ?_
      refine mg_imul C dX5_enough_25 ?_
      refine mg_tos (w := .int (nI q)) (by rw [d4, d2, pk_mul, hq]) ?_
      refine mg_icmp_ge C 35 dX5_enough_26 (by decide) (fun h26 => ?_) (fun h26 => ?_)
      · have hans : eb q 15 1 = b := (by rw [← he, show 16 - b = (15 - b) + 1 by omega, eb, if_neg (by have h5 := (nI_leI (by omega) (by omega)).mp h26; omega)])
        refine mg_iload_n C dX5_enough_35 rfl ?_
        exact mg_iret C hQ dX5_enough_36 (⟨ad, g, a, v, by rw [gEn, if_neg hex, d4, d2, pk_mul, hq, nI_clamp (by omega), hans], Sh.rf, hV, rfl, rfl⟩)
      · have hbq : 2 ^ b - 1 < q := (by rcases Nat.lt_or_ge (2 ^ b - 1) q with h | h; exact h; exact absurd (nI_le h (by omega)) h26)
        have hb7 : b ≠ 7 := (by intro e; rw [e] at hbq; have e7 : (2 : Nat) ^ 7 - 1 = 127 := rfl; omega)
        refine mg_iinc C dX5_enough_29 rfl rfl ?_
        refine mg_lve (lv' := [(0, _), (1, _)]) rfl ?_
        refine mg_goto C 12 dX5_enough_32 (by decide) ?_
        refine mg_lve (lv' := [(0, .ref (ad 17)), (1, .int (nI (b + 1)))]) (by rw [nI_succ b]; rfl) ?_
        refine ih (b + 1) (by omega) (by omega) (by omega) ?_
        rw [← he, show 16 - b = (15 - b) + 1 by omega, eb, if_pos hbq, show 16 - (b + 1) = 15 - b by omega]
  refine mg_aload_n C dX5_enough_0 rfl ?_
  refine mg_callV C (ct_X5_hasTable E _ _ _ _ _) oX5_125 17 rfl rfl rfl rfl rfl dX5_enough_1 (fun o1 w1 z1 => ?_)
  obtain ⟨rfl, rfl⟩ := z1
  refine mg_v ?_
  refine mg_if_ne C 10 dX5_enough_4 (by decide) (fun h4 => ?_) (fun h4 => ?_)
  · refine mg_iconst (v := 1) C dX5_enough_10 (by decide) ?_
    refine mg_istore_n C dX5_enough_11 rfl ?_
    refine mg_lve (lv' := [(0, _), (1, _)]) rfl ?_
    exact loop h4 9 1 (by omega) (by omega) (by omega) rfl
  · refine mg_bipush (v := (-3)) C dX5_enough_7 (by decide) ?_
    exact mg_iret C hQ dX5_enough_9 (⟨ad, g, a, v, by rw [gEn, if_pos h4], Sh.rf, hV, rfl, rfl⟩)

