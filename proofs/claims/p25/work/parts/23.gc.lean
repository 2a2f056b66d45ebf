set_option maxHeartbeats 400000 in
set_option maxRecDepth 100000 in
theorem ct_X3_base (E : En) (ad : Nat → Nat) (fl : Nat) (g : Nat → Int32) (a : Nat → Nat → Int32) (v : Nat → Int64) (tl : va_W)   : Ct E mX3_base 0 0 0 [.ref (ad 13)] (cw E ad fl g a v tl) (fun o w => o = some (.int (g 2 + 1)) ∧ w = cw E ad fl g a v tl) := by
  refine Ct.of (by decide) (Nat.le_of_ble_eq_true rfl) (fun X C hQ hin => ?_)
  have C : Cx E X cX3_base 1 RX3 (some .int) 0 0 0 0 := C
  refine mg_aload_n C dX3_base_0 rfl ?_
  refine mg_get C inG_X3 fX3_27 (ci := 3) rfl rfl 13 rfl rfl dX3_base_1 ?_
  refine mg_getN C inG_X1 fX3_62 (ci := 1) rfl rfl 18 rfl rfl dX3_base_4 ?_
  refine mg_iconst (v := 1) C dX3_base_7 (by decide) ?_
  refine mg_iadd C dX3_base_8 ?_
  exact mg_iret C hQ dX3_base_9 (⟨rfl, rfl⟩)
set_option maxHeartbeats 400000 in
set_option maxRecDepth 100000 in
theorem cw_X3_power (E : En) (ws : va_W) (b : Int32) (D : Nat) (hD : D < 1000) : Ct E mX3_power 0 0 0 [.int b, .int (nI D)] ws (fun o w => o = some (.int (pwI b D)) ∧ w = ws) := by
  refine Ct.of (by decide) (Nat.le_of_ble_eq_true rfl) (fun X C hQ hin => ?_)
  have C : Cx E X cX3_power 4 RX3 (some .int) 0 0 0 0 := C
  have loop : ∀ (m i : Nat), D < i + m → i ≤ D → GG E X ws 0 0 4 [(0, .int b), (1, .int (nI D)), (2, .int (pwI b i)), (3, .int (nI i))] [] := by
    intro m
    induction m with
    | zero => intro i hm hi; omega
    | succ m ih =>
      intro i hm hi
      refine mg_iload_n C dX3_power_4 rfl ?_
      refine mg_iload_n C dX3_power_5 rfl ?_
      refine mg_icmp_ge C 19 dX3_power_6 (by decide) (fun h6 => ?_) (fun h6 => ?_)
      · have hge : i = D := (by rcases Nat.lt_or_ge i D with h | h; exact absurd (h6) (nI_ge h (by omega)); omega)
        subst hge
        refine mg_iload_n C dX3_power_19 rfl ?_
        exact mg_iret C hQ dX3_power_20 (⟨rfl, rfl⟩)
      · have hlt : i < D := (by rcases Nat.lt_or_ge i D with h | h; exact h; exact absurd (nI_le h (by omega)) h6)
        refine mg_iload_n C dX3_power_9 rfl ?_
        refine mg_iload_n C dX3_power_10 rfl ?_
        refine mg_imul C dX3_power_11 ?_
        refine mg_istore_n C dX3_power_12 rfl ?_
        refine mg_lve (lv' := [(0, _), (1, _), (2, _), (3, _)]) rfl ?_
        refine mg_iinc C dX3_power_13 rfl rfl ?_
        refine mg_lve (lv' := [(0, _), (1, _), (2, _), (3, _)]) rfl ?_
        refine mg_goto C 4 dX3_power_16 (by decide) ?_
        refine mg_lve (lv' := [(0, .int b), (1, .int (nI D)), (2, .int (pwI b (i + 1))), (3, .int (nI (i + 1)))]) (by rw [nI_succ i]; rfl) ?_
        exact ih (i + 1) (by omega) (by omega)
  refine mg_iconst (v := 1) C dX3_power_0 (by decide) ?_
  refine mg_istore_n C dX3_power_1 rfl ?_
  refine mg_lve (lv' := [(0, _), (1, _), (2, _)]) rfl ?_
  refine mg_iconst (v := 0) C dX3_power_2 (by decide) ?_
  refine mg_istore_n C dX3_power_3 rfl ?_
  refine mg_lve (lv' := [(0, _), (1, _), (2, _), (3, _)]) rfl ?_
  exact loop (D + 1) 0 (by omega) (by omega)
set_option maxHeartbeats 400000 in
set_option maxRecDepth 100000 in
theorem cw_X3_begin (E : En) (ad : Nat → Nat) (fl : Nat) (g : Nat → Int32) (a : Nat → Nat → Int32) (v : Nat → Int64) (tl : va_W) (p q : Int32) (D : Nat) (hD : D < 1000) : Ct E mX3_begin 1 0 0 [.ref (ad 13), .int p, .int q, .int (nI D)] (cw E ad fl g a v tl) (fun o w => ∃ a1 : Nat → Nat → Int32, o = none ∧ (∀ j, j < 8 → a1 5 j = nI j) ∧ (∀ j, j ≠ 5 → a1 j = upa a 4 (fun _ => 0) j) ∧ w = cw E ad fl (ug (ug (ug (ug (ug g 4 p) 5 q) 6 (nI D)) 7 (pwI (g 2 + 1) D - 1)) 8 0) a1 v tl) := by
  refine Ct.of (by decide) (Nat.le_of_ble_eq_true rfl) (fun X C hQ hin => ?_)
  have C : Cx E X cX3_begin 5 RX3 none 1 40 0 0 := C
  have loop : ∀ (m i : Nat) (a1 : Nat → Nat → Int32), 8 < i + m → i ≤ 8 → (∀ j, j < i → a1 5 j = nI j) → (∀ j, j ≠ 5 → a1 j = upa a 4 (fun _ => 0) j) → GG E X (cw E ad fl (ug (ug (ug (ug (ug g 4 p) 5 q) 6 (nI D)) 7 (pwI (g 2 + 1) D - 1)) 8 0) a1 v tl) 0 0 45 [(0, .ref (ad 13)), (1, .int p), (2, .int q), (3, .int (nI D)), (4, .int (nI i))] [] := by
    intro m
    induction m with
    | zero => intro i a1 hm hi; omega
    | succ m ih =>
      intro i a1 hm hi hr ho
      refine mg_iload C dX3_begin_45 rfl ?_
      refine mg_bipush (v := 8) C dX3_begin_47 (by decide) ?_
      refine mg_icmp_ge C 67 dX3_begin_49 (by decide) (fun h49 => ?_) (fun h49 => ?_)
      · have hge : i = 8 := (by rcases Nat.lt_or_ge i 8 with h | h; exact absurd h49 (nI_ge (b := 8) h (by decide)); omega)
        subst hge
        exact mg_vret C hQ dX3_begin_67 (⟨a1, rfl, hr, ho, rfl⟩)
      · have hlt : i < 8 := (by rcases Nat.lt_or_ge i 8 with h | h; exact h; exact absurd (show (8 : Int32) ≤ nI i from nI_le (a := 8) h (by omega)) h49)
        have hin4 : vp_in (nI i) 8 := vp_in_nI hlt (by decide)
        refine mg_aload_n C dX3_begin_52 rfl ?_
        refine mg_get C inG_X3 fX3_15 (ci := 3) rfl rfl 13 rfl rfl dX3_begin_53 ?_
        refine mg_iload C dX3_begin_56 rfl ?_
        refine mg_iload C dX3_begin_58 rfl ?_
        refine mg_iast C 11 rfl (hin4) dX3_begin_60 (ws' := (cw E ad fl (ug (ug (ug (ug (ug g 4 p) 5 q) 6 (nI D)) 7 (pwI (g 2 + 1) D - 1)) 8 0) (ups a1 5 ((nI i) : Int32).toNatClampNeg (nI i)) v tl)) rfl ?_
        refine mg_iinc C dX3_begin_61 rfl rfl ?_
        refine mg_lve (lv' := [(0, _), (1, _), (2, _), (3, _), (4, _)]) rfl ?_
        refine mg_goto C 45 dX3_begin_64 (by decide) ?_
        refine mg_lve (lv' := [(0, .ref (ad 13)), (1, .int p), (2, .int q), (3, .int (nI D)), (4, .int (nI (i + 1)))]) (by rw [nI_succ i]; rfl) ?_
        refine ih (i + 1) _ (by omega) (by omega) (fun j hj => ?_) (fun j hj => (ups_n hj).trans (ho j hj))
        show upd (a1 5) _ _ j = _
        rw [nI_clamp (by omega)]
        by_cases e : j = i
        · rw [e]; exact pk_us
        · rw [pk_un e]; exact hr j (by omega)
  refine mg_aload_n C dX3_begin_0 rfl ?_
  refine mg_iload_n C dX3_begin_1 rfl ?_
  refine mg_put C inG_X3 fX3_31 (ci := 3) rfl rfl tyX3 tyX3_ok nmX3 rfl 13 rfl rfl rfl rfl dX3_begin_2 (ws' := (cw E ad fl (ug g 4 p) a v tl)) rfl ?_
  refine mg_aload_n C dX3_begin_5 rfl ?_
  refine mg_iload_n C dX3_begin_6 rfl ?_
  refine mg_put C inG_X3 fX3_35 (ci := 3) rfl rfl tyX3 tyX3_ok nmX3 rfl 13 rfl rfl rfl rfl dX3_begin_7 (ws' := (cw E ad fl (ug (ug g 4 p) 5 q) a v tl)) rfl ?_
  refine mg_aload_n C dX3_begin_10 rfl ?_
  refine mg_iload_n C dX3_begin_11 rfl ?_
  refine mg_put C inG_X3 fX3_38 (ci := 3) rfl rfl tyX3 tyX3_ok nmX3 rfl 13 rfl rfl rfl rfl dX3_begin_12 (ws' := (cw E ad fl (ug (ug (ug g 4 p) 5 q) 6 (nI D)) a v tl)) rfl ?_
  refine mg_aload_n C dX3_begin_15 rfl ?_
  refine mg_aload_n C dX3_begin_16 rfl ?_
  refine mg_callV C (ct_X3_base E _ _ _ _ _ _) oX3_45 13 rfl rfl rfl rfl rfl dX3_begin_17 (fun o17 w17 z17 => ?_)
  obtain ⟨rfl, rfl⟩ := z17
  refine mg_v ?_
  refine mg_iload_n C dX3_begin_20 rfl ?_
  refine mg_callS C (cw_X3_power E _ _ _ (by omega)) oX3_49 rfl rfl rfl dX3_begin_21 (fun o21 w21 z21 => ?_)
  obtain ⟨rfl, rfl⟩ := z21
  refine mg_v ?_
  refine mg_iconst (v := 1) C dX3_begin_24 (by decide) ?_
  refine mg_isub C dX3_begin_25 ?_
  refine mg_tos (w := .int (pwI (g 2 + 1) D - 1)) rfl ?_
  refine mg_put C inG_X3 fX3_53 (ci := 3) rfl rfl tyX3 tyX3_ok nmX3 rfl 13 rfl rfl rfl rfl dX3_begin_26 (ws' := (cw E ad fl (ug (ug (ug (ug g 4 p) 5 q) 6 (nI D)) 7 (pwI (g 2 + 1) D - 1)) a v tl)) rfl ?_
  refine mg_aload_n C dX3_begin_29 rfl ?_
  refine mg_iconst (v := 0) C dX3_begin_30 (by decide) ?_
  refine mg_put C inG_X3 fX3_41 (ci := 3) rfl rfl tyX3 tyX3_ok nmX3 rfl 13 rfl rfl rfl rfl dX3_begin_31 (ws' := (cw E ad fl (ug (ug (ug (ug (ug g 4 p) 5 q) 6 (nI D)) 7 (pwI (g 2 + 1) D - 1)) 8 0) a v tl)) rfl ?_
  refine mg_aload_n C dX3_begin_34 rfl ?_
  refine mg_get C inG_X3 fX3_9 (ci := 3) rfl rfl 13 rfl rfl dX3_begin_35 ?_
  refine mg_iconst (v := 0) C dX3_begin_38 (by decide) ?_
  refine mg_callS C (ct_J7_fill_53178 E _ 12 _ _ _ rfl rfl _) oX3_56 rfl rfl rfl dX3_begin_39 (fun o39 w39 z39 => ?_)
  obtain ⟨rfl, rfl⟩ := z39
  refine mg_ws (ws' := (cw E ad fl (ug (ug (ug (ug (ug g 4 p) 5 q) 6 (nI D)) 7 (pwI (g 2 + 1) D - 1)) 8 0) (upa a 4 (fun _ => 0)) v tl)) rfl ?_
  refine mg_v0 ?_
  refine mg_iconst (v := 0) C dX3_begin_42 (by decide) ?_
  refine mg_istore C dX3_begin_43 rfl ?_
  refine mg_lve (lv' := [(0, _), (1, _), (2, _), (3, _), (4, _)]) rfl ?_
  exact loop 9 0 _ (by omega) (by omega) (fun j hj => absurd hj (Nat.not_lt_zero j)) (fun _ _ => rfl)
def tOk (g : Nat → Int32) (p q d : Int32) : Prop := ¬ wi p 1 (g 0) = 0 ∧ ¬ wi q 1 12 = 0 ∧ ¬ wi d 1 6 = 0 ∧ 2 * d * q ≤ g 1
def gTable (g : Nat → Int32) (p q d : Int32) : Int32 := if wi p 1 (g 0) = 0 then -2 else if wi q 1 12 = 0 then -2 else if wi d 1 6 = 0 then -2 else if 2 * d * q ≤ g 1 then 1 else -3
def sTable (g : Nat → Int32) (p q d : Int32) : Nat → Int32 := if wi p 1 (g 0) = 0 then g else if wi q 1 12 = 0 then g else if wi d 1 6 = 0 then g else if 2 * d * q ≤ g 1 then ug (ug (ug (ug g 4 p) 5 q) 6 d) 8 0 else g
def aTable (g : Nat → Int32) (a : Nat → Nat → Int32) (p q d : Int32) : Nat → Nat → Int32 := if wi p 1 (g 0) = 0 then a else if wi q 1 12 = 0 then a else if wi d 1 6 = 0 then a else if 2 * d * q ≤ g 1 then upa a 4 (fun _ => 0) else a
theorem table_iv {fl : Nat} {g g1 : Nat → Int32} {a a1 : Nat → Nat → Int32} {p q d : Int32} (h : IV fl g a) (h1 : ¬ wi p 1 (g 0) = 0) (h2 : ¬ wi q 1 12 = 0) (h3 : ¬ wi d 1 6 = 0) (h4 : 2 * d * q ≤ g 1) (hg : ∀ i, i ∈ shl → g1 i = ug (ug (ug (ug g 4 p) 5 q) 6 d) 8 0 i) (h5 : ∀ j, j < 8 → a1 5 j = nI j) (hs : ∀ j, j < 192 → a1 1 j = a 1 j) : IV fl g1 a1 := by
  obtain ⟨R, C, T, n0, m0, D0, F, ⟨⟨d0, d0a, d0b⟩, ⟨d1, d1a, d1b⟩, ⟨d2, d2a, d2b⟩, -⟩, ⟨dF, dF1, dF2⟩, hr, ho1⟩ := h
  rw [d0] at h1
  obtain ⟨n, rfl, hn1, hn2⟩ := wi_mk (P := 1) (Q := R) rfl (nI_toInt (by omega)) h1
  obtain ⟨m, rfl, hm1, hm2⟩ := wi_mk (P := 1) (Q := 12) rfl rfl h2
  obtain ⟨D, rfl, hD1, hD2⟩ := wi_mk (P := 1) (Q := 6) rfl rfl h3
  have e3 : (2 : Int32) * nI D * nI m = nI (2 * D * m) := by rw [show (2 : Int32) = nI 2 from rfl, pk_mul, pk_mul]
  have h144 : 2 * D * m ≤ 2 * 6 * 12 := Nat.mul_le_mul (Nat.mul_le_mul (Nat.le_refl 2) hD2) hm2
  rw [e3, d1] at h4
  have h5' := (nI_leI (by omega) (by omega)).mp h4
  refine ⟨R, C, T, n, m, D, F, ⟨⟨(hg 0 (by decide)).trans d0, d0a, d0b⟩, ⟨(hg 1 (by decide)).trans d1, d1a, d1b⟩, ⟨(hg 2 (by decide)).trans d2, d2a, d2b⟩, ⟨hg 4 (by decide), hn2⟩, hg 5 (by decide), ⟨hg 6 (by decide), hD2⟩, h5', fun e => by omega, fun _ => ⟨hD1, hm1⟩⟩, ⟨(hg 15 (by decide)).trans dF, dF1, dF2⟩, fun i hi => ⟨i, hi, h5 i hi⟩, fun r c hr8 hc24 ho2 => ?_⟩
  rw [hs _ (by omega)]
  exact ho1 r c hr8 hc24 ho2
theorem tb_sc {g : Nat → Int32} {p q d e : Int32} : ∀ i, i ∈ shl → ug (ug (ug (ug (ug g 4 p) 5 q) 6 d) 7 e) 8 0 i = ug (ug (ug (ug g 4 p) 5 q) 6 d) 8 0 i := by
  intro i hi
  simp only [shl, List.mem_cons, List.not_mem_nil, or_false] at hi
  rcases hi with rfl | rfl | rfl | rfl | rfl | rfl | rfl | rfl | rfl | rfl | rfl | rfl <;> rfl
set_option maxHeartbeats 400000 in
set_option maxRecDepth 100000 in
theorem cv_table (E : En) (ad : Nat → Nat) (fl : Nat) (g : Nat → Int32) (a : Nat → Nat → Int32) (v : Nat → Int64) (tl : va_W) (p q d : Int32) (hV : CV fl g a) : Ct E mX4_table 2 0 0 [.ref (ad 19), .int p, .int q, .int d] (cw E ad fl g a v tl) (fun o w => ∃ (ad1 : Nat → Nat) (fl1 : Nat) (g1 : Nat → Int32) (a1 : Nat → Nat → Int32) (v1 : Nat → Int64), o = some (.int (gTable g p q d)) ∧ Sh (sTable g p q d) (aTable g a p q d) g1 a1 ∧ CV fl1 g1 a1 ∧ ad1 19 = ad 19 ∧ w = cw E ad1 fl1 g1 a1 v1 tl) := by
  refine Ct.of (by decide) (Nat.le_of_ble_eq_true rfl) (fun X C hQ hin => ?_)
  have C : Cx E X cX4_table 4 RX4 (some .int) 2 80 0 0 := C
  obtain ⟨R, Cc, T, n, m, D, F, ⟨⟨d0, d0a, d0b⟩, ⟨d1, d1a, d1b⟩, ⟨d2, d2a, d2b⟩, ⟨d4, d4a⟩, d5, ⟨d6, d6a⟩, dcm, dn0, dn1⟩, ⟨dF, dF1, dF2⟩, drow, dout⟩ := id hV.1
  refine mg_iload_n C dX4_table_0 rfl ?_
  refine mg_iconst (v := 1) C dX4_table_1 (by decide) ?_
  refine mg_aload_n C dX4_table_2 rfl ?_
  refine mg_get C inG_X4 fX4_10 (ci := 4) rfl rfl 19 rfl rfl dX4_table_3 ?_
  refine mg_getN C inG_X1 fX4_79 (ci := 1) rfl rfl 18 rfl rfl dX4_table_6 ?_
  refine mg_callS C (ct_X4_within E _ _ _ _) oX4_39 rfl rfl rfl dX4_table_9 (fun o9 w9 z9 => ?_)
  obtain ⟨rfl, rfl⟩ := z9
  refine mg_v ?_
  refine mg_if_eq C 35 dX4_table_12 (by decide) (fun h12 => ?_) (fun h12 => ?_)
  · refine mg_bipush (v := (-2)) C dX4_table_35 (by decide) ?_
    exact mg_iret C hQ dX4_table_37 (⟨ad, fl, g, a, v, by rw [gTable, if_pos h12] <;> first | rfl | decide, by rw [sTable, aTable, if_pos h12, if_pos h12]; exact Sh.rf, hV, rfl, rfl⟩)
  · refine mg_iload_n C dX4_table_15 rfl ?_
    refine mg_iconst (v := 1) C dX4_table_16 (by decide) ?_
    refine mg_bipush (v := 12) C dX4_table_17 (by decide) ?_
    refine mg_callS C (ct_X4_within E _ _ _ _) oX4_39 rfl rfl rfl dX4_table_19 (fun o19 w19 z19 => ?_)
    obtain ⟨rfl, rfl⟩ := z19
    refine mg_v ?_
    refine mg_if_eq C 35 dX4_table_22 (by decide) (fun h22 => ?_) (fun h22 => ?_)
    · refine mg_bipush (v := (-2)) C dX4_table_35 (by decide) ?_
      exact mg_iret C hQ dX4_table_37 (⟨ad, fl, g, a, v, by rw [gTable, if_neg h12, if_pos h22] <;> first | rfl | decide, by rw [sTable, aTable, if_neg h12, if_pos h22, if_neg h12, if_pos h22]; exact Sh.rf, hV, rfl, rfl⟩)
    · refine mg_iload_n C dX4_table_25 rfl ?_
      refine mg_iconst (v := 1) C dX4_table_26 (by decide) ?_
      refine mg_bipush (v := 6) C dX4_table_27 (by decide) ?_
      refine mg_callS C (ct_X4_within E _ _ _ _) oX4_39 rfl rfl rfl dX4_table_29 (fun o29 w29 z29 => ?_)
      obtain ⟨rfl, rfl⟩ := z29
      refine mg_v ?_
      refine mg_if_ne C 38 dX4_table_32 (by decide) (fun h32 => ?_) (fun h32 => ?_)
      · refine mg_iconst (v := 2) C dX4_table_38 (by decide) ?_
        refine mg_iload_n C dX4_table_39 rfl ?_
        refine mg_imul C dX4_table_40 ?_
        refine mg_iload_n C dX4_table_41 rfl ?_
        refine mg_imul C dX4_table_42 ?_
        refine mg_aload_n C dX4_table_43 rfl ?_
        refine mg_get C inG_X4 fX4_10 (ci := 4) rfl rfl 19 rfl rfl dX4_table_44 ?_
        refine mg_getN C inG_X1 fX4_89 (ci := 1) rfl rfl 18 rfl rfl dX4_table_47 ?_
        refine mg_icmp_le C 56 dX4_table_50 (by decide) (fun h50 => ?_) (fun h50 => ?_)
        · obtain ⟨DD, edd, hD1, hD2⟩ := wi_mk (P := 1) (Q := 6) rfl rfl h32
          subst edd
          have hd6 : ¬ wi (nI DD) 1 6 = 0 := h32
          refine mg_aload_n C dX4_table_56 rfl ?_
          refine mg_get C inG_X4 fX4_21 (ci := 4) rfl rfl 19 rfl rfl dX4_table_57 ?_
          refine mg_iload_n C dX4_table_60 rfl ?_
          refine mg_iload_n C dX4_table_61 rfl ?_
          refine mg_iload_n C dX4_table_62 rfl ?_
          refine mg_callVN C (cw_X3_begin E _ _ _ _ _ _ _ _ DD (by omega)) oX4_99 13 rfl rfl rfl rfl rfl dX4_table_63 (fun o63 w63 z63 => ?_)
          obtain ⟨a1, rfl, hr5, ho5, rfl⟩ := z63
          refine mg_v0 ?_
          refine mg_iconst (v := 1) C dX4_table_66 (by decide) ?_
          exact mg_iret C hQ dX4_table_67 (by
    refine ⟨ad, fl, _, a1, v, ?_, ?_, ⟨table_iv hV.1 h12 h22 hd6 h50 tb_sc hr5 (fun j _ => by rw [ho5 1 (by decide)]; rfl), Or.inr ?_⟩, rfl, rfl⟩
    · rw [gTable, if_neg h12, if_neg h22, if_neg h32, if_pos h50] <;> first | rfl | decide
    · rw [sTable, aTable, if_neg h12, if_neg h22, if_neg h32, if_pos h50, if_neg h12, if_neg h22, if_neg h32, if_pos h50]
      exact ⟨tb_sc, fun j _ => by rw [ho5 1 (by decide)], fun j _ => by rw [ho5 3 (by decide)], fun j _ => by rw [ho5 4 (by decide)], fun j _ => by rw [ho5 13 (by decide)]⟩
    · show pwI (g 2 + 1) DD - 1 = pwI (g 2 + 1) (nI DD).toNatClampNeg - 1
      rw [nI_clamp (by omega)])
        · refine mg_bipush (v := (-3)) C dX4_table_53 (by decide) ?_
          exact mg_iret C hQ dX4_table_55 (⟨ad, fl, g, a, v, by rw [gTable, if_neg h12, if_neg h22, if_neg h32, if_neg h50] <;> first | rfl | decide, by rw [sTable, aTable, if_neg h12, if_neg h22, if_neg h32, if_neg h50, if_neg h12, if_neg h22, if_neg h32, if_neg h50]; exact Sh.rf, hV, rfl, rfl⟩)
      · refine mg_bipush (v := (-2)) C dX4_table_35 (by decide) ?_
        exact mg_iret C hQ dX4_table_37 (⟨ad, fl, g, a, v, by rw [gTable, if_neg h12, if_neg h22, if_pos h32] <;> first | rfl | decide, by rw [sTable, aTable, if_neg h12, if_neg h22, if_pos h32, if_neg h12, if_neg h22, if_pos h32]; exact Sh.rf, hV, rfl, rfl⟩)
theorem nu_eq (i k : Nat) : nI i * 12 + nI k = nI (i * 12 + k) := by rw [show (12 : Int32) = nI 12 from rfl, pk_mul, nI_add]
theorem nu_eq' (i k : Nat) : 12 * nI i + nI k = nI (i * 12 + k) := by rw [show (12 : Int32) = nI 12 from rfl, pk_mul, nI_add, Nat.mul_comm]
set_option maxHeartbeats 400000 in
set_option maxRecDepth 100000 in
theorem ct_X3_numberAt (E : En) (ad : Nat → Nat) (fl : Nat) (g : Nat → Int32) (a : Nat → Nat → Int32) (v : Nat → Int64) (tl : va_W) (i k : Nat) (hik : i * 12 + k < 96) : Ct E mX3_numberAt 0 0 0 [.ref (ad 13), .int (nI i), .int (nI k)] (cw E ad fl g a v tl) (fun o w => o = some (.int (a 4 (i * 12 + k))) ∧ w = cw E ad fl g a v tl) := by
  refine Ct.of (by decide) (Nat.le_of_ble_eq_true rfl) (fun X C hQ hin => ?_)
  have C : Cx E X cX3_numberAt 3 RX3 (some .int) 0 0 0 0 := C
  refine mg_aload_n C dX3_numberAt_0 rfl ?_
  refine mg_get C inG_X3 fX3_9 (ci := 3) rfl rfl 13 rfl rfl dX3_numberAt_1 ?_
  refine mg_iload_n C dX3_numberAt_4 rfl ?_
  refine mg_bipush (v := 12) C dX3_numberAt_5 (by decide) ?_
  refine mg_imul C dX3_numberAt_7 ?_
  refine mg_iload_n C dX3_numberAt_8 rfl ?_
  refine mg_iadd C dX3_numberAt_9 ?_
  refine mg_iald C 12 rfl ((by rw [nu_eq]; exact vp_in_nI hik (by decide))) dX3_numberAt_10 ?_
  exact mg_iret C hQ dX3_numberAt_11 (⟨by rw [nu_eq, nI_clamp (by omega)], rfl⟩)
set_option maxHeartbeats 400000 in
set_option maxRecDepth 100000 in
theorem ct_X3_exchange (E : En) (ad : Nat → Nat) (fl : Nat) (g : Nat → Int32) (a : Nat → Nat → Int32) (v : Nat → Int64) (tl : va_W) (i k : Nat) (y : Int32) (hik : i * 12 + k < 96) : Ct E mX3_exchange 1 0 0 [.ref (ad 13), .int (nI i), .int (nI k), .int y] (cw E ad fl g a v tl) (fun o w => o = some (.int (a 4 (i * 12 + k))) ∧ w = cw E ad fl g (ups a 4 (i * 12 + k) y) v tl) := by
  refine Ct.of (by decide) (Nat.le_of_ble_eq_true rfl) (fun X C hQ hin => ?_)
  have C : Cx E X cX3_exchange 5 RX3 (some .int) 1 40 0 0 := C
  refine mg_aload_n C dX3_exchange_0 rfl ?_
  refine mg_iload_n C dX3_exchange_1 rfl ?_
  refine mg_iload_n C dX3_exchange_2 rfl ?_
  refine mg_callV C (ct_X3_numberAt E _ _ _ _ _ _ _ _ hik) oX3_67 13 rfl rfl rfl rfl rfl dX3_exchange_3 (fun o3 w3 z3 => ?_)
  obtain ⟨rfl, rfl⟩ := z3
  refine mg_v ?_
  refine mg_istore C dX3_exchange_6 rfl ?_
  refine mg_lve (lv' := [(0, _), (1, _), (2, _), (3, _), (4, _)]) rfl ?_
  refine mg_aload_n C dX3_exchange_8 rfl ?_
  refine mg_get C inG_X3 fX3_9 (ci := 3) rfl rfl 13 rfl rfl dX3_exchange_9 ?_
  refine mg_iload_n C dX3_exchange_12 rfl ?_
  refine mg_bipush (v := 12) C dX3_exchange_13 (by decide) ?_
  refine mg_imul C dX3_exchange_15 ?_
  refine mg_iload_n C dX3_exchange_16 rfl ?_
  refine mg_iadd C dX3_exchange_17 ?_
  refine mg_iload_n C dX3_exchange_18 rfl ?_
  refine mg_iast C 12 rfl ((by rw [nu_eq]; exact vp_in_nI hik (by decide))) dX3_exchange_19 (ws' := (cw E ad fl g (ups a 4 _ y) v tl)) rfl ?_
  refine mg_iload C dX3_exchange_20 rfl ?_
  exact mg_iret C hQ dX3_exchange_22 (⟨rfl, by rw [nu_eq, nI_clamp (by omega)]⟩)
def gNum (g : Nat → Int32) (a : Nat → Nat → Int32) (i k y : Int32) : Int32 := if wi i 0 (g 4 - 1) = 0 then -2000000000 else if wi k 0 (g 5 - 1) = 0 then -2000000000 else if wi y (-(gre g)) (gre g) = 0 then -2000000000 else a 4 (i.toNatClampNeg * 12 + k.toNatClampNeg)
def aNum (g : Nat → Int32) (a : Nat → Nat → Int32) (i k y : Int32) : Nat → Nat → Int32 := if wi i 0 (g 4 - 1) = 0 then a else if wi k 0 (g 5 - 1) = 0 then a else if wi y (-(gre g)) (gre g) = 0 then a else ups a 4 (i.toNatClampNeg * 12 + k.toNatClampNeg) y
set_option maxHeartbeats 400000 in
set_option maxRecDepth 100000 in
theorem cv_number (E : En) (ad : Nat → Nat) (fl : Nat) (g : Nat → Int32) (a : Nat → Nat → Int32) (v : Nat → Int64) (tl : va_W) (i k y : Int32) (hV : CV fl g a) : Ct E mX4_number 2 0 0 [.ref (ad 19), .int i, .int k, .int y] (cw E ad fl g a v tl) (fun o w => ∃ (ad1 : Nat → Nat) (fl1 : Nat) (g1 : Nat → Int32) (a1 : Nat → Nat → Int32) (v1 : Nat → Int64), o = some (.int (gNum g a i k y)) ∧ Sh g (aNum g a i k y) g1 a1 ∧ CV fl1 g1 a1 ∧ ad1 19 = ad 19 ∧ w = cw E ad1 fl1 g1 a1 v1 tl) := by
  refine Ct.of (by decide) (Nat.le_of_ble_eq_true rfl) (fun X C hQ hin => ?_)
  have C : Cx E X cX4_number 4 RX4 (some .int) 2 80 0 0 := C
  obtain ⟨R, Cc, T, n, m, D, F, ⟨⟨d0, d0a, d0b⟩, ⟨d1, d1a, d1b⟩, ⟨d2, d2a, d2b⟩, ⟨d4, d4a⟩, d5, ⟨d6, d6a⟩, dcm, dn0, dn1⟩, ⟨dF, dF1, dF2⟩, drow, dout⟩ := id hV.1
  refine mg_iload_n C dX4_number_0 rfl ?_
  refine mg_iconst (v := 0) C dX4_number_1 (by decide) ?_
  refine mg_aload_n C dX4_number_2 rfl ?_
  refine mg_get C inG_X4 fX4_21 (ci := 4) rfl rfl 19 rfl rfl dX4_number_3 ?_
  refine mg_getN C inG_X3 fX4_102 (ci := 3) rfl rfl 13 rfl rfl dX4_number_6 ?_
  refine mg_iconst (v := 1) C dX4_number_9 (by decide) ?_
  refine mg_isub C dX4_number_10 ?_
  refine mg_callS C (ct_X4_within E _ _ _ _) oX4_39 rfl rfl rfl dX4_number_11 (fun o11 w11 z11 => ?_)
  obtain ⟨rfl, rfl⟩ := z11
  refine mg_v ?_
  refine mg_if_eq C 56 dX4_number_14 (by decide) (fun h14 => ?_) (fun h14 => ?_)
  · refine mg_ldc C dX4_number_56 kX4_111 ?_
    exact mg_iret C hQ dX4_number_58 (⟨ad, fl, g, a, v, by rw [gNum, if_pos h14], by rw [aNum, if_pos h14]; exact Sh.rf, hV, rfl, rfl⟩)
  · refine mg_iload_n C dX4_number_17 rfl ?_
    refine mg_iconst (v := 0) C dX4_number_18 (by decide) ?_
    refine mg_aload_n C dX4_number_19 rfl ?_
    refine mg_get C inG_X4 fX4_21 (ci := 4) rfl rfl 19 rfl rfl dX4_number_20 ?_
    refine mg_getN C inG_X3 fX4_105 (ci := 3) rfl rfl 13 rfl rfl dX4_number_23 ?_
    refine mg_iconst (v := 1) C dX4_number_26 (by decide) ?_
    refine mg_isub C dX4_number_27 ?_
    refine mg_callS C (ct_X4_within E _ _ _ _) oX4_39 rfl rfl rfl dX4_number_28 (fun o28 w28 z28 => ?_)
    obtain ⟨rfl, rfl⟩ := z28
    refine mg_v ?_
    refine mg_if_eq C 56 dX4_number_31 (by decide) (fun h31 => ?_) (fun h31 => ?_)
    · refine mg_ldc C dX4_number_56 kX4_111 ?_
      exact mg_iret C hQ dX4_number_58 (⟨ad, fl, g, a, v, by rw [gNum, if_neg h14, if_pos h31], by rw [aNum, if_neg h14, if_pos h31]; exact Sh.rf, hV, rfl, rfl⟩)
    · obtain ⟨ii, eii, hii⟩ := wi_in d4 (by omega) h14
      have hm12 : m ≤ 12 := (by have q := (dn1 (by omega)).1; have q2 : 2 * 1 * m ≤ 2 * D * m := Nat.mul_le_mul (Nat.mul_le_mul (Nat.le_refl 2) q) (Nat.le_refl m); omega)
      obtain ⟨kk, ekk, hkk⟩ := wi_in d5 (by omega) h31
      subst eii; subst ekk
      have hgr : g 7 = gre g := hV.2.resolve_left (by rw [d4]; exact nI_ne0 (by omega) (by omega))
      refine mg_iload_n C dX4_number_34 rfl ?_
      refine mg_aload_n C dX4_number_35 rfl ?_
      refine mg_get C inG_X4 fX4_21 (ci := 4) rfl rfl 19 rfl rfl dX4_number_36 ?_
      refine mg_getN C inG_X3 fX4_108 (ci := 3) rfl rfl 13 rfl rfl dX4_number_39 ?_
      refine mg_ineg C dX4_number_42 ?_
      refine mg_aload_n C dX4_number_43 rfl ?_
      refine mg_get C inG_X4 fX4_21 (ci := 4) rfl rfl 19 rfl rfl dX4_number_44 ?_
      refine mg_getN C inG_X3 fX4_108 (ci := 3) rfl rfl 13 rfl rfl dX4_number_47 ?_
      rw [hgr]
      refine mg_callS C (ct_X4_within E _ _ _ _) oX4_39 rfl rfl rfl dX4_number_50 (fun o50 w50 z50 => ?_)
      obtain ⟨rfl, rfl⟩ := z50
      refine mg_v ?_
      refine mg_if_ne C 59 dX4_number_53 (by decide) (fun h53 => ?_) (fun h53 => ?_)
      · refine mg_aload_n C dX4_number_59 rfl ?_
        refine mg_get C inG_X4 fX4_21 (ci := 4) rfl rfl 19 rfl rfl dX4_number_60 ?_
        refine mg_iload_n C dX4_number_63 rfl ?_
        refine mg_iload_n C dX4_number_64 rfl ?_
        refine mg_iload_n C dX4_number_65 rfl ?_
        refine mg_callVN C (ct_X3_exchange E _ _ _ _ _ _ ii kk y (by omega)) oX4_112 13 rfl rfl rfl rfl rfl dX4_number_66 (fun o66 w66 z66 => ?_)
        obtain ⟨rfl, rfl⟩ := z66
        refine mg_v ?_
        exact mg_iret C hQ dX4_number_69 (by
    have e1 : (nI ii).toNatClampNeg = ii := nI_clamp (by omega)
    have e2 : (nI kk).toNatClampNeg = kk := nI_clamp (by omega)
    refine ⟨ad, fl, g, ups a 4 (ii * 12 + kk) y, v, ?_, ?_, hV.ar rfl rfl, rfl, rfl⟩
    · rw [gNum, if_neg h14, if_neg h31, if_neg h53, e1, e2]
    · rw [aNum, if_neg h14, if_neg h31, if_neg h53, e1, e2]; exact Sh.rf)
      · refine mg_ldc C dX4_number_56 kX4_111 ?_
        exact mg_iret C hQ dX4_number_58 (⟨ad, fl, g, a, v, by rw [gNum, if_neg h14, if_neg h31, if_pos h53], by rw [aNum, if_neg h14, if_neg h31, if_pos h53]; exact Sh.rf, hV, rfl, rfl⟩)
