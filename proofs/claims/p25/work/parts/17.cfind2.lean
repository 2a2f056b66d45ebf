theorem one_shl (n : Nat) : 1 <<< n = 2 ^ n := by rw [Nat.shiftLeft_eq, Nat.one_mul]
theorem tb_eq {k : Nat} (h : k ≤ 3) : (1 : Int32) <<< (nI k &&& 31) = nI (2 ^ k) := by
  rw [show (1 : Int32) = nI 1 from rfl, ni_shl (by omega), one_shl]
theorem fm_eq {k : Nat} (h : k ≤ 3) : (1 : Int32) <<< ((1 : Int32) <<< (nI k &&& 31) &&& 31) - 1 = nI (Mk k) := by
  have hp := pow_le3 h
  rw [tb_eq h, show (1 : Int32) = nI 1 from rfl, ni_shl (by omega), one_shl, pk_sub Nat.one_le_two_pow]
  rfl
theorem lpB_t {k s t p : Nat} : ∀ (n : Nat) (B : Bs), t < B.1 → t < (lpB k s t p n B).2.1 := by
  intro n
  induction n with
  | zero => intro B h; exact h
  | succ n ih =>
    intro B h
    rw [lpB_s]
    have h1 := (lpC_t (k := k) (s := s) (p := p) (q := s - (n + 1)) (s - k) B h).1
    cases ha : (lpC k s t p (s - (n + 1)) (s - k) B).1 with
    | true => rw [thn_t ha]; exact ih _ h1
    | false => rw [thn_f ha]; exact h1
theorem lpA_t {k s t : Nat} : ∀ (n : Nat) (B : Bs), t < B.1 → t < (lpA k s t n B).2.1 := by
  intro n
  induction n with
  | zero => intro B h; exact h
  | succ n ih =>
    intro B h
    rw [lpA_s]
    have h1 := lpB_t (k := k) (s := s) (p := s - (n + 1)) (n + 1) B h
    cases ha : (lpB k s t (s - (n + 1)) (n + 1) B).1 with
    | true => rw [thn_t ha]; exact ih _ h1
    | false => rw [thn_f ha]; exact h1
theorem dpt_fuel {F : Nat → Nat} {T : Nat} (hF : ∀ i, i ≤ T → i = 0 ∨ F i < i) : ∀ (n t m : Nat), t ≤ T → t ≤ n → t ≤ m → dpt F n t = dpt F m t := by
  intro n
  induction n with
  | zero =>
    intro t m hT hn hm
    have e : t = 0 := by omega
    subst e
    cases m with
    | zero => rfl
    | succ m => rfl
  | succ n ih =>
    intro t m hT hn hm
    by_cases e : t = 0
    · subst e
      cases m with
      | zero => rfl
      | succ m => rfl
    · have h1 : F t < t := (hF t hT).resolve_left e
      cases m with
      | zero => omega
      | succ m =>
        simp only [dpt, if_neg e]
        rw [ih (F t) m (by omega) (by omega) (by omega)]
theorem dpt_s {F : Nat → Nat} {T t : Nat} (hF : ∀ i, i ≤ T → i = 0 ∨ F i < i) (hT : t ≤ T) (h : t ≠ 0) : dpt F t t = dpt F (F t) (F t) + 1 := by
  have h1 : F t < t := (hF t hT).resolve_left h
  obtain ⟨u, rfl⟩ : ∃ u, t = u + 1 := ⟨t - 1, by omega⟩
  simp only [dpt, if_neg h]
  rw [dpt_fuel hF u (F (u + 1)) (F (u + 1)) (by omega) (by omega) (Nat.le_refl _)]
theorem dpt_le {F : Nat → Nat} {T : Nat} (hF : ∀ i, i ≤ T → i = 0 ∨ F i < i) : ∀ (n t : Nat), t ≤ T → t ≤ n → dpt F t t ≤ t := by
  intro n
  induction n with
  | zero => intro t hT hn; have e : t = 0 := by omega
            subst e; exact Nat.le_refl _
  | succ n ih =>
    intro t hT hn
    by_cases e : t = 0
    · subst e; exact Nat.le_refl _
    · have h1 : F t < t := (hF t hT).resolve_left e
      rw [dpt_s hF hT e]
      have h2 := ih (F t) (by omega) (by omega)
      omega
def una (ad : Nat → Nat) (q : Nat) : Nat → Nat := fun i => bif Nat.beq i 0 then q else ad i
theorem una_n {ad : Nat → Nat} {q i : Nat} (h : i ≠ 0) : una ad q i = ad i := by
  have e : (i == 0) = false := by simpa using h
  unfold una; rw [nbq, e]; rfl
set_option maxHeartbeats 400000 in
set_option maxRecDepth 100000 in
theorem ct_X2_begin (E : En) (ad : Nat → Nat) (fl : Nat) (g : Nat → Int32) (a : Nat → Nat → Int32) (v : Nat → Int64) (tl : va_W) (kN sN : Nat) (hk : KS kN sN) : Ct E mX2_begin 2 0 0 [.ref (ad 4), .int (nI kN), .int (nI sN)] (cw E ad fl g a v tl) (fun o w => ∃ (g1 : Nat → Int32) (a1 : Nat → Nat → Int32) (v1 : Nat → Int64), o = none ∧ CI kN sN Bb g1 a1 v1 ∧ (∀ i, i ≠ 10 → i ≠ 11 → i ≠ 12 → i ≠ 13 → i ≠ 14 → g1 i = g i) ∧ (∀ j, j ≠ 11 → j ≠ 12 → a1 j = a j) ∧ w = cw E ad fl g1 a1 v1 tl) := by
  refine Ct.of (by decide) (Nat.le_of_ble_eq_true rfl) (fun X C hQ hin => ?_)
  have C : Cx E X cX2_begin 4 RX2 none 2 80 0 0 := C
  have hk2 := hk
  obtain ⟨⟨hk1, hk3⟩, hks, hs5⟩ := hk2
  have loop : ∀ (m i : Nat) (a1 : Nat → Nat → Int32), kN < i + m → i ≤ kN → a1 11 = (fun _ => 0) → (∀ j, j < i → a1 12 j = nI (inR j (2 ^ kN))) → (∀ j, j ≠ 11 → j ≠ 12 → a1 j = a j) → GG E X (cw E ad fl (ug (ug (ug (ug (ug g 10 (nI kN)) 11 (nI sN)) 12 (nI (2 ^ kN))) 13 (nI (Mk kN))) 14 0) a1 v tl) 0 0 40 [(0, .ref (ad 4)), (1, .int (nI kN)), (2, .int (nI sN)), (3, .int (nI i))] [] := by
    intro m
    induction m with
    | zero => intro i a1 hm hi; omega
    | succ m ih =>
      intro i a1 hm hi h11 hin ho
      refine mg_iload_n C dX2_begin_40 rfl ?_
      refine mg_iload_n C dX2_begin_41 rfl ?_
      refine mg_icmp_ge C 62 dX2_begin_42 (by decide) (fun h42 => ?_) (fun h42 => ?_)
      · have ei : i = kN := (by rcases Nat.lt_or_ge i kN with h | h; exact absurd h42 (nI_ge h (by omega)); omega)
        subst ei
        have hI0 : CI i sN Bz (ug (ug (ug (ug (ug g 10 (nI i)) 11 (nI sN)) 12 (nI (2 ^ i))) 13 (nI (Mk i))) 14 0) a1 v := ⟨⟨rfl, rfl, rfl, rfl, rfl⟩, ⟨by decide, fun j hj => absurd hj (Nat.not_lt_zero j)⟩, fun j hj => absurd hj (Nat.not_lt_zero j), fun y _ => by rw [h11]; exact sb_0 y, hin⟩
        refine mg_aload_n C dX2_begin_62 rfl ?_
        refine mg_iconst (v := 0) C dX2_begin_63 (by decide) ?_
        refine mg_iconst (v := 0) C dX2_begin_64 (by decide) ?_
        refine mg_iconst (v := 0) C dX2_begin_65 (by decide) ?_
        refine mg_callV C (ct_X2_meet E _ _ _ _ _ _ i sN Bz 0 0 0 hk hI0 (Nat.pow_pos (by omega)) ⟨by omega, Or.inl rfl⟩ (by omega)) oX2_82 4 rfl rfl rfl rfl rfl dX2_begin_66 (fun o66 w66 z66 => ?_)
        obtain ⟨g2, a2, v2, rfl, hI2, hg2, ha2, rfl⟩ := z66
        refine mg_v ?_
        refine mg_pop C dX2_begin_69 rfl ?_
        exact mg_vret C hQ dX2_begin_70 (⟨g2, a2, v2, rfl, hI2, fun i h0 h1 h2 h3 h4 => by rw [hg2 i h4, ug_n h4, ug_n h3, ug_n h2, ug_n h1, ug_n h0], fun j h1 h2 => (ha2 j h1).trans (ho j h1 h2), rfl⟩)
      · have hlt : i < kN := (by rcases Nat.lt_or_ge i kN with h | h; exact h; exact absurd (nI_le h (by omega)) h42)
        have hin3 : vp_in (nI i) 5 := vp_in_nI (by omega) (by decide)
        refine mg_aload_n C dX2_begin_45 rfl ?_
        refine mg_get C inG_X2 fX2_19 (ci := 2) rfl rfl 4 rfl rfl dX2_begin_46 ?_
        refine mg_iload_n C dX2_begin_49 rfl ?_
        refine mg_aload_n C dX2_begin_50 rfl ?_
        refine mg_iload_n C dX2_begin_51 rfl ?_
        refine mg_callV C (ct_X2_inputTable E _ _ _ _ _ _ kN _ hk3 (by omega) rfl) oX2_79 4 rfl rfl rfl rfl rfl dX2_begin_52 (fun o52 w52 z52 => ?_)
        obtain ⟨rfl, rfl⟩ := z52
        refine mg_v ?_
        refine mg_topi (fun zv55 ezv55 => ?_)
        refine mg_iast C 1 rfl (hin3) dX2_begin_55 (ws' := (cw E ad fl (ug (ug (ug (ug (ug g 10 (nI kN)) 11 (nI sN)) 12 (nI (2 ^ kN))) 13 (nI (Mk kN))) 14 0) (ups a1 12 ((nI i) : Int32).toNatClampNeg zv55) v tl)) rfl ?_
        refine mg_iinc C dX2_begin_56 rfl rfl ?_
        refine mg_lve (lv' := [(0, _), (1, _), (2, _), (3, _)]) rfl ?_
        refine mg_goto C 40 dX2_begin_59 (by decide) ?_
        refine mg_lve (lv' := [(0, .ref (ad 4)), (1, .int (nI kN)), (2, .int (nI sN)), (3, .int (nI (i + 1)))]) (by rw [nI_succ i]; rfl) ?_
        refine ih (i + 1) _ (by omega) (by omega) h11 (fun j hj => ?_) (fun j h1 h2 => ?_)
        · show upd (a1 12) _ _ j = _
          rw [nI_clamp (by omega)]
          by_cases hji : j = i
          · rw [hji]; exact pk_us.trans ezv55
          · rw [pk_un hji]; exact hin j (by omega)
        · rw [← ho j h1 h2]; exact ups_n h2
  refine mg_aload_n C dX2_begin_0 rfl ?_
  refine mg_iload_n C dX2_begin_1 rfl ?_
  refine mg_put C inG_X2 fX2_58 (ci := 2) rfl rfl tyX2 tyX2_ok nmX2 rfl 4 rfl rfl rfl rfl dX2_begin_2 (ws' := (cw E ad fl (ug g 10 (nI kN)) a v tl)) rfl ?_
  refine mg_aload_n C dX2_begin_5 rfl ?_
  refine mg_iload_n C dX2_begin_6 rfl ?_
  refine mg_put C inG_X2 fX2_61 (ci := 2) rfl rfl tyX2 tyX2_ok nmX2 rfl 4 rfl rfl rfl rfl dX2_begin_7 (ws' := (cw E ad fl (ug (ug g 10 (nI kN)) 11 (nI sN)) a v tl)) rfl ?_
  refine mg_aload_n C dX2_begin_10 rfl ?_
  refine mg_iconst (v := 1) C dX2_begin_11 (by decide) ?_
  refine mg_iload_n C dX2_begin_12 rfl ?_
  refine mg_ishl C dX2_begin_13 ?_
  refine mg_tos (w := .int (nI (2 ^ kN))) (congrArg Value.int (tb_eq hk3)) ?_
  refine mg_put C inG_X2 fX2_64 (ci := 2) rfl rfl tyX2 tyX2_ok nmX2 rfl 4 rfl rfl rfl rfl dX2_begin_14 (ws' := (cw E ad fl (ug (ug (ug g 10 (nI kN)) 11 (nI sN)) 12 (nI (2 ^ kN))) a v tl)) rfl ?_
  refine mg_aload_n C dX2_begin_17 rfl ?_
  refine mg_iload_n C dX2_begin_18 rfl ?_
  refine mg_callSN C (ct_X4_fullTable E _ _) oX2_67 rfl rfl rfl dX2_begin_19 (fun o19 w19 z19 => ?_)
  obtain ⟨rfl, rfl⟩ := z19
  refine mg_v ?_
  refine mg_tos (w := .int (nI (Mk kN))) (congrArg Value.int (fm_eq hk3)) ?_
  refine mg_put C inG_X2 fX2_70 (ci := 2) rfl rfl tyX2 tyX2_ok nmX2 rfl 4 rfl rfl rfl rfl dX2_begin_22 (ws' := (cw E ad fl (ug (ug (ug (ug g 10 (nI kN)) 11 (nI sN)) 12 (nI (2 ^ kN))) 13 (nI (Mk kN))) a v tl)) rfl ?_
  refine mg_aload_n C dX2_begin_25 rfl ?_
  refine mg_get C inG_X2 fX2_15 (ci := 2) rfl rfl 4 rfl rfl dX2_begin_26 ?_
  refine mg_iconst (v := 0) C dX2_begin_29 (by decide) ?_
  refine mg_callS C (ct_J7_fill_53178 E _ 2 _ _ _ rfl rfl _) oX2_73 rfl rfl rfl dX2_begin_30 (fun o30 w30 z30 => ?_)
  obtain ⟨rfl, rfl⟩ := z30
  refine mg_ws (ws' := (cw E ad fl (ug (ug (ug (ug g 10 (nI kN)) 11 (nI sN)) 12 (nI (2 ^ kN))) 13 (nI (Mk kN))) (upa a 11 (fun _ => 0)) v tl)) rfl ?_
  refine mg_v0 ?_
  refine mg_aload_n C dX2_begin_33 rfl ?_
  refine mg_iconst (v := 0) C dX2_begin_34 (by decide) ?_
  refine mg_put C inG_X2 fX2_33 (ci := 2) rfl rfl tyX2 tyX2_ok nmX2 rfl 4 rfl rfl rfl rfl dX2_begin_35 (ws' := (cw E ad fl (ug (ug (ug (ug (ug g 10 (nI kN)) 11 (nI sN)) 12 (nI (2 ^ kN))) 13 (nI (Mk kN))) 14 0) (upa a 11 (fun _ => 0)) v tl)) rfl ?_
  refine mg_iconst (v := 0) C dX2_begin_38 (by decide) ?_
  refine mg_istore_n C dX2_begin_39 rfl ?_
  refine mg_lve (lv' := [(0, _), (1, _), (2, _), (3, _)]) rfl ?_
  exact loop (kN + 1) 0 _ (by omega) (by omega) rfl (fun j hj => absurd hj (Nat.not_lt_zero j)) (fun j h1 h2 => upa_n h1)
theorem sub1 (y : Int32) : y + Int32.ofInt (-1) = y - 1 := (Int32.sub_eq_add_neg y 1).symm
theorem ug2 (g : Nat → Int32) (j : Nat) (x y : Int32) : ug (ug g j x) j y = ug g j y := by
  funext i
  unfold ug
  cases Nat.beq i j <;> rfl
set_option maxHeartbeats 400000 in
set_option maxRecDepth 100000 in
theorem ct_X2_keep (E : En) (ad : Nat → Nat) (fl : Nat) (g : Nat → Int32) (a : Nat → Nat → Int32) (v : Nat → Int64) (tl : va_W) (kN sN : Nat) (B : Bs) (t0 : Nat) (c0 : Int32) (hk : KS kN sN) (hI : CI kN sN B g a v) (ht0 : t0 < B.1) (hfl : fl ≤ 8000) : Ct E mX2_keep 1 1 8000 [.ref (ad 4), .int (nI t0), .int c0] (cw E ad fl g a v tl) (fun o w => ∃ (ad1 : Nat → Nat) (fl1 : Nat) (g1 : Nat → Int32) (a1 : Nat → Nat → Int32), o = none ∧ g1 15 = nI (dpt B.2.2.1 t0 t0) ∧ g1 16 = c0 ∧ (∀ i, i ≠ 15 → i ≠ 16 → g1 i = g i) ∧ (∀ j, j ≠ 13 → a1 j = a j) ∧ (∀ i, i ≠ 0 → ad1 i = ad i) ∧ fl1 ≤ 8000 ∧ w = cw E ad1 fl1 g1 a1 v tl) := by
  refine Ct.of (by decide) (Nat.le_of_ble_eq_true rfl) (fun X C hQ hin => ?_)
  have C : Cx E X cX2_keep 5 RX2 none 1 40 1 8000 := C
  obtain ⟨-, iB, i3, -, -⟩ := id hI
  have hcap := cap_le hk
  have iB8 := iB.1
  have hF : ∀ i, i ≤ t0 → i = 0 ∨ B.2.2.1 i < i := fun i hi => (iB.2 i (by omega)).2.2.1
  obtain ⟨D, hD⟩ : ∃ D, D = dpt B.2.2.1 t0 t0 := ⟨_, rfl⟩
  have hDle : D ≤ t0 := (by rw [hD]; exact dpt_le hF t0 t0 (Nat.le_refl _) (Nat.le_refl _))
  have loop2 : ∀ (ad1 : Nat → Nat) (fl1 : Nat) (g1 : Nat → Int32), fl1 ≤ 8000 → D ≤ fl1 → g1 15 = nI (dpt B.2.2.1 t0 t0) → g1 16 = c0 → (∀ i, i ≠ 15 → i ≠ 16 → g1 i = g i) → (∀ i, i ≠ 0 → ad1 i = ad i) → ∀ (m x : Nat) (a1 : Nat → Nat → Int32), x < m → x ≤ t0 → dpt B.2.2.1 x x ≤ D → (∀ j, j ≠ 13 → a1 j = a j) → GG E X (cw E ad1 fl1 g1 a1 v tl) 1 8000 81 [(0, .ref (ad1 4)), (1, .int (nI t0)), (2, .int c0), (3, .int (nI (dpt B.2.2.1 x x) - 1)), (4, .int (nI x))] [] := by
    intro ad1 fl1 g1 hfl1 hD1 hg15 hg16 hgo hado m
    induction m with
    | zero => intro x a1 hm; omega
    | succ m ih =>
      intro x a1 hm hx hdD ho
      refine mg_iload C dX2_keep_81 rfl ?_
      refine mg_if_le C 124 dX2_keep_83 (by decide) (fun h83 => ?_) (fun h83 => ?_)
      · exact mg_vret C hQ dX2_keep_124 (⟨ad1, fl1, g1, a1, rfl, hg15, hg16, hgo, ho, hado, by omega, rfl⟩)
      · have hx0 : x ≠ 0 := (by intro e; rw [e] at h83; exact h83 (Int32.le_refl 0))
        have hin4 : vp_in (nI x) 8000 := vp_in_nI (by omega) (by decide)
        have hFx : B.2.2.1 x < x := (hF x hx).resolve_left hx0
        have hdx := dpt_s hF hx hx0
        have er : nI (dpt B.2.2.1 x x) - 1 = nI (dpt B.2.2.1 (B.2.2.1 x) (B.2.2.1 x)) := (by rw [hdx]; exact nI_pred _)
        refine mg_iload_n C dX2_keep_86 rfl ?_
        refine mg_if_lt C 124 dX2_keep_87 (by decide) (fun h87 => absurd h87 (by rw [er]; exact nI_pos (by omega))) (fun h87 => ?_)
        have hin3 : vp_in (nI (dpt B.2.2.1 x x) - 1) fl1 := (by rw [er]; exact vp_in_nI (by omega) (by omega))
        refine mg_aload_n C dX2_keep_90 rfl ?_
        refine mg_get C inG_X2 fX2_22 (ci := 2) rfl rfl 4 rfl rfl dX2_keep_91 ?_
        refine mg_iload_n C dX2_keep_94 rfl ?_
        refine mg_aload_n C dX2_keep_95 rfl ?_
        refine mg_get C inG_X2 fX2_9 (ci := 2) rfl rfl 4 rfl rfl dX2_keep_96 ?_
        refine mg_iload C dX2_keep_99 rfl ?_
        refine mg_lald C 3 rfl (hin4) dX2_keep_101 ?_
        refine mg_callSN C (ct_X4_cameBy E _ _) oX2_103 rfl rfl rfl dX2_keep_102 (fun o102 w102 z102 => ?_)
        obtain ⟨rfl, rfl⟩ := z102
        refine mg_v ?_
        refine mg_topi (fun zv105 ezv105 => ?_)
        refine mg_iast C 0 rfl (hin3) dX2_keep_105 (ws' := (cw E ad1 fl1 g1 (ups a1 13 ((nI (dpt B.2.2.1 x x) - 1) : Int32).toNatClampNeg zv105) v tl)) rfl ?_
        refine mg_iinc C dX2_keep_106 rfl rfl ?_
        refine mg_lve (lv' := [(0, _), (1, _), (2, _), (3, _), (4, _)]) rfl ?_
        refine mg_aload_n C dX2_keep_109 rfl ?_
        refine mg_get C inG_X2 fX2_9 (ci := 2) rfl rfl 4 rfl rfl dX2_keep_110 ?_
        refine mg_iload C dX2_keep_113 rfl ?_
        refine mg_lald C 3 rfl (hin4) dX2_keep_115 ?_
        refine mg_callSN C (ct_X4_cameFrom E _ _) oX2_100 rfl rfl rfl dX2_keep_116 (fun o116 w116 z116 => ?_)
        obtain ⟨rfl, rfl⟩ := z116
        refine mg_v ?_
        refine mg_tos (w := .int (nI (B.2.2.1 x))) (by rw [nI_clamp (by omega), i3 x (by omega)]; exact congrArg Value.int (pv_from (by have q := (iB.2 x (by omega)).1; omega) (iB.2 x (by omega)).2.1 (iB.2 x (by omega)).2.2.2)) ?_
        refine mg_istore C dX2_keep_119 rfl ?_
        refine mg_lve (lv' := [(0, _), (1, _), (2, _), (3, _), (4, _)]) rfl ?_
        refine mg_goto C 81 dX2_keep_121 (by decide) ?_
        refine mg_lve (lv' := [(0, .ref (ad1 4)), (1, .int (nI t0)), (2, .int c0), (3, .int (nI (dpt B.2.2.1 (B.2.2.1 x) (B.2.2.1 x)) - 1)), (4, .int (nI (B.2.2.1 x)))]) ?_ ?_
        · have e1 : nI (dpt B.2.2.1 x x) - 1 + Int32.ofInt (-1) = nI (dpt B.2.2.1 (B.2.2.1 x) (B.2.2.1 x)) - 1 := (by rw [er]; exact sub1 _)
          rw [e1]
        · exact ih (B.2.2.1 x) _ (by omega) (by omega) (by omega) (fun j hj => (ups_n hj).trans (ho j hj))
  have go : ∀ (k n : Nat), Nat.ble k 1 = true → Nat.ble n 8000 = true → ∀ (ad1 : Nat → Nat) (fl1 : Nat) (g1 : Nat → Int32) (a1 : Nat → Nat → Int32), D ≤ fl1 → fl1 ≤ 8000 → g1 15 = nI D → g1 16 = c0 → (∀ i, i ≠ 15 → i ≠ 16 → g1 i = g i) → (∀ j, j ≠ 13 → a1 j = a j) → (∀ i, i ≠ 0 → ad1 i = ad i) → GG E X (cw E ad1 fl1 g1 a1 v tl) k n 71 [(0, .ref (ad1 4)), (1, .int (nI t0)), (2, .int c0), (3, .int (nI 0))] [] := by
    intro k n hkb hnb ad1 fl1 g1 a1 hD1 hfl1 hg15 hg16 hgo ho hado
    have hk1 := Nat.le_of_ble_eq_true hkb
    have hn1 := Nat.le_of_ble_eq_true hnb
    rw [hD] at hg15
    refine mg_aload_n C dX2_keep_71 rfl ?_
    refine mg_get C inG_X2 fX2_51 (ci := 2) rfl rfl 4 rfl rfl dX2_keep_72 ?_
    refine mg_iconst (v := 1) C dX2_keep_75 (by decide) ?_
    refine mg_isub C dX2_keep_76 ?_
    refine mg_istore_n C dX2_keep_77 rfl ?_
    refine mg_lve (lv' := [(0, _), (1, _), (2, _), (3, _)]) rfl ?_
    refine mg_iload_n C dX2_keep_78 rfl ?_
    refine mg_istore C dX2_keep_79 rfl ?_
    refine mg_lve (lv' := [(0, _), (1, _), (2, _), (3, _), (4, _)]) rfl ?_
    refine mg_widen' (k' := 1) (n' := 8000) (by omega) (by omega) ?_
    refine mg_lve (lv' := [(0, .ref (ad1 4)), (1, .int (nI t0)), (2, .int c0), (3, .int (nI (dpt B.2.2.1 t0 t0) - 1)), (4, .int (nI t0))]) ?_ ?_
    · rw [hg15]
    · exact loop2 ad1 fl1 g1 hfl1 hD1 hg15 hg16 hgo hado (t0 + 1) t0 a1 (by omega) (Nat.le_refl _) (by rw [hD]; exact Nat.le_refl _) ho
  have mk : ¬ nI D ≤ nI fl → GG E X (cw E ad fl (ug (ug g 16 c0) 15 (nI D)) a v tl) 0 0 61 [(0, .ref (ad 4)), (1, .int (nI t0)), (2, .int c0), (3, .int (nI 0))] [] := by
    intro hlt
    refine mg_aload_n C dX2_keep_61 rfl ?_
    refine mg_aload_n C dX2_keep_62 rfl ?_
    refine mg_get C inG_X2 fX2_51 (ci := 2) rfl rfl 4 rfl rfl dX2_keep_63 ?_
    refine mg_newi C aI_ok (N := D) (nI_pos (by omega)) (nI_clamp (by omega)) (by show D * 4 ≤ _; omega) (by omega) (by omega) dX2_keep_66 (fun q => ?_)
    refine mg_put C inG_X2 fX2_22 (ci := 2) rfl rfl tyX2 tyX2_ok nmX2 rfl 5 rfl rfl rfl rfl dX2_keep_68 rfl ?_
    refine mg_drop2 ?_
    refine mg_ws (ws' := cw E (una ad q) D (ug (ug g 16 c0) 15 (nI D)) (upa a 13 (fun _ => 0)) v tl) rfl ?_
    exact go _ _ rfl (by show Nat.ble (0 + D) 8000 = true; exact Nat.ble_eq_true_of_le (by omega)) (una ad q) D (ug (ug g 16 c0) 15 (nI D)) (upa a 13 (fun _ => 0)) (Nat.le_refl _) (by omega) rfl rfl (fun i h1 h2 => (ug_n h1).trans (ug_n h2)) (fun j hj => upa_n hj) (fun i hi => una_n hi)
  have aft : GG E X (cw E ad fl (ug (ug g 16 c0) 15 (nI D)) a v tl) 0 0 49 [(0, .ref (ad 4)), (1, .int (nI t0)), (2, .int c0), (3, .int (nI 0))] [] := by
    refine mg_aload_n C dX2_keep_49 rfl ?_
    refine mg_get C inG_X2 fX2_51 (ci := 2) rfl rfl 4 rfl rfl dX2_keep_50 ?_
    refine mg_aload_n C dX2_keep_53 rfl ?_
    refine mg_get C inG_X2 fX2_22 (ci := 2) rfl rfl 4 rfl rfl dX2_keep_54 ?_
    refine mg_alen C 0 rfl rfl dX2_keep_57 ?_
    refine mg_icmp_le C 71 dX2_keep_58 (by decide) (fun h58 => ?_) (fun h58 => ?_)
    · exact go 0 0 rfl rfl ad fl (ug (ug g 16 c0) 15 (nI D)) a (by have h9 : nI D ≤ nI fl := h58; exact (nI_leI (by omega) (by omega)).mp h9) hfl rfl rfl (fun i h1 h2 => (ug_n h1).trans (ug_n h2)) (fun _ _ => rfl) (fun _ _ => rfl)
    · exact mk h58
  have loop1 : ∀ (m x n : Nat), x < m → x ≤ t0 → n + dpt B.2.2.1 x x = D → GG E X (cw E ad fl (ug (ug g 16 c0) 15 (nI n)) a v tl) 0 0 12 [(0, .ref (ad 4)), (1, .int (nI t0)), (2, .int c0), (3, .int (nI x))] [] := by
    intro m
    induction m with
    | zero => intro x n hm; omega
    | succ m ih =>
      intro x n hm hx hn
      refine mg_iload_n C dX2_keep_12 rfl ?_
      refine mg_if_le C 49 dX2_keep_13 (by decide) (fun h13 => ?_) (fun h13 => ?_)
      · have ex : x = 0 := (by rcases Nat.eq_zero_or_pos x with q | q; exact q; exact absurd h13 (nI_nle q (by omega)))
        subst ex
        have en : n = D := (by rw [← hn]; rfl)
        subst en
        exact aft
      · have hx0 : x ≠ 0 := (by intro e; rw [e] at h13; exact h13 (Int32.le_refl 0))
        have hin3 : vp_in (nI x) 8000 := vp_in_nI (by omega) (by decide)
        have hFx : B.2.2.1 x < x := (hF x hx).resolve_left hx0
        have hdx := dpt_s hF hx hx0
        refine mg_aload_n C dX2_keep_16 rfl ?_
        refine mg_get C inG_X2 fX2_51 (ci := 2) rfl rfl 4 rfl rfl dX2_keep_17 ?_
        refine mg_sipush (v := 8000) C dX2_keep_20 (by decide) ?_
        refine mg_icmp_ge C 49 dX2_keep_23 (by decide) (fun h23 => absurd h23 (nI_ge (b := 8000) (by omega) (by decide))) (fun h23 => ?_)
        refine mg_aload_n C dX2_keep_26 rfl ?_
        refine mg_dup C dX2_keep_27 rfl ?_
        refine mg_get C inG_X2 fX2_51 (ci := 2) rfl rfl 4 rfl rfl dX2_keep_28 ?_
        refine mg_iconst (v := 1) C dX2_keep_31 (by decide) ?_
        refine mg_iadd C dX2_keep_32 ?_
        refine mg_tos (w := .int (nI (n + 1))) (congrArg Value.int (nI_1 n)) ?_
        refine mg_put C inG_X2 fX2_51 (ci := 2) rfl rfl tyX2 tyX2_ok nmX2 rfl 4 rfl rfl rfl rfl dX2_keep_33 (ws' := (cw E ad fl (ug (ug (ug g 16 c0) 15 (nI n)) 15 (nI (n + 1))) a v tl)) rfl ?_
        refine mg_aload_n C dX2_keep_36 rfl ?_
        refine mg_get C inG_X2 fX2_9 (ci := 2) rfl rfl 4 rfl rfl dX2_keep_37 ?_
        refine mg_iload_n C dX2_keep_40 rfl ?_
        refine mg_lald C 3 rfl (hin3) dX2_keep_41 ?_
        refine mg_callSN C (ct_X4_cameFrom E _ _) oX2_100 rfl rfl rfl dX2_keep_42 (fun o42 w42 z42 => ?_)
        obtain ⟨rfl, rfl⟩ := z42
        refine mg_v ?_
        refine mg_tos (w := .int (nI (B.2.2.1 x))) (by rw [nI_clamp (by omega), i3 x (by omega)]; exact congrArg Value.int (pv_from (by have q := (iB.2 x (by omega)).1; omega) (iB.2 x (by omega)).2.1 (iB.2 x (by omega)).2.2.2)) ?_
        refine mg_istore_n C dX2_keep_45 rfl ?_
        refine mg_lve (lv' := [(0, _), (1, _), (2, _), (3, _)]) rfl ?_
        refine mg_goto C 12 dX2_keep_46 (by decide) ?_
        refine mg_ws (ws' := cw E ad fl (ug (ug g 16 c0) 15 (nI (n + 1))) a v tl) ?_ ?_
        · exact congrArg (fun z => cw E ad fl z a v tl) (ug2 _ _ _ _)
        · exact ih (B.2.2.1 x) (n + 1) (by omega) (by omega) (by omega)
  refine mg_aload_n C dX2_keep_0 rfl ?_
  refine mg_iload_n C dX2_keep_1 rfl ?_
  refine mg_put C inG_X2 fX2_25 (ci := 2) rfl rfl tyX2 tyX2_ok nmX2 rfl 4 rfl rfl rfl rfl dX2_keep_2 (ws' := (cw E ad fl (ug g 16 c0) a v tl)) rfl ?_
  refine mg_aload_n C dX2_keep_5 rfl ?_
  refine mg_iconst (v := 0) C dX2_keep_6 (by decide) ?_
  refine mg_put C inG_X2 fX2_51 (ci := 2) rfl rfl tyX2 tyX2_ok nmX2 rfl 4 rfl rfl rfl rfl dX2_keep_7 (ws' := (cw E ad fl (ug (ug g 16 c0) 15 0) a v tl)) rfl ?_
  refine mg_iload_n C dX2_keep_10 rfl ?_
  refine mg_istore_n C dX2_keep_11 rfl ?_
  refine mg_lve (lv' := [(0, _), (1, _), (2, _), (3, _)]) rfl ?_
  exact loop1 (t0 + 1) t0 0 (by omega) (Nat.le_refl _) (by omega)
theorem fwi_s {c : Nat} (h : c < 5) : ¬ fwi (some c) = -1 := by
  rcases (by omega : c = 0 ∨ c = 1 ∨ c = 2 ∨ c = 3 ∨ c = 4) with rfl | rfl | rfl | rfl | rfl <;> decide
theorem fwc_lt {k s x w : Nat} : ∀ (n c : Nat), n ≤ s → fwc k s x w n = some c → c < s := by
  intro n
  induction n with
  | zero => intro c _ h; cases h
  | succ n ih =>
    intro c hn h
    rw [fwc] at h
    by_cases e : tabs k x (s - (n + 1)) = w
    · rw [if_pos e] at h; cases h; omega
    · rw [if_neg e] at h; exact ih c (by omega) h
theorem fwn0 {k s x w : Nat} (hs : s ≤ 5) (h : fwi (fwc k s x w s) = -1) : fwc k s x w s = none := by
  cases e : fwc k s x w s with
  | none => rfl
  | some c =>
    rw [e] at h
    have h1 := fwc_lt s c (Nat.le_refl _) e
    exact absurd h (fwi_s (by omega))
theorem fws0 {k s x w : Nat} (h : ¬ fwi (fwc k s x w s) = -1) : ∃ c, fwc k s x w s = some c := by
  cases e : fwc k s x w s with
  | none => rw [e] at h; exact absurd rfl h
  | some c => exact ⟨c, rfl⟩
theorem pair_t {r : Bool × Bs} (h : r.1 = true) : r = (true, r.2) := by
  obtain ⟨r1, r2⟩ := r
  dsimp only at h
  subst h
  rfl
theorem pair_f {r : Bool × Bs} (h : r.1 = false) : r = (false, r.2) := by
  obtain ⟨r1, r2⟩ := r
  dsimp only at h
  subst h
  rfl
set_option maxHeartbeats 400000 in
set_option maxRecDepth 100000 in
theorem ct_X2_seek (E : En) (ad : Nat → Nat) (fl : Nat) (g : Nat → Int32) (a : Nat → Nat → Int32) (v : Nat → Int64) (tl : va_W) (kN sN w0 : Nat) (hk : KS kN sN) (hw0 : w0 < 256) (hfl : fl ≤ 8000) : Ct E mX2_seek 4 1 8000 [.ref (ad 4), .int (nI kN), .int (nI sN), .int (nI w0)] (cw E ad fl g a v tl) (fun o w => ∃ (ad1 : Nat → Nat) (fl1 : Nat) (g1 : Nat → Int32) (a1 : Nat → Nat → Int32) (v1 : Nat → Int64), o = some (.int (skA kN sN w0 8001 0 Bb)) ∧ w = cw E ad1 fl1 g1 a1 v1 tl) := by
  refine Ct.of (by decide) (Nat.le_of_ble_eq_true rfl) (fun X C hQ hin => ?_)
  have C : Cx E X cX2_seek 6 RX2 (some .int) 4 160 1 8000 := C
  have hk2 := hk
  obtain ⟨⟨hk1, hk3⟩, hks, hs5⟩ := hk2
  have hcap := cap_le hk
  have loop : ∀ (m tt : Nat) (B1 : Bs) (g1 : Nat → Int32) (a1 : Nat → Nat → Int32) (v1 : Nat → Int64), 8001 < tt + m → CI kN sN B1 g1 a1 v1 → tt ≤ B1.1 → skA kN sN w0 (8001 - tt) tt B1 = skA kN sN w0 8001 0 Bb → GG E X (cw E ad fl g1 a1 v1 tl) 0 0 9 [(0, .ref (ad 4)), (1, .int (nI kN)), (2, .int (nI sN)), (3, .int (nI w0)), (4, .int (nI tt))] [] := by
    intro m
    induction m with
    | zero =>
      intro tt B1 g1 a1 v1 hm hI1 hle
      have h8 := hI1.2.1.1
      omega
    | succ m ih =>
      intro tt B1 g1 a1 v1 hm hI1 hle hl1
      obtain ⟨⟨j10, j11, j12, j13, j14⟩, jB, j3, j4, j5⟩ := id hI1
      have jB8 := jB.1
      refine mg_iload C dX2_seek_9 rfl ?_
      refine mg_sipush (v := 8000) C dX2_seek_11 (by decide) ?_
      refine mg_icmp_ge C 84 dX2_seek_14 (by decide) (fun h14 => ?_) (fun h14 => ?_)
      · have hge : B1.1 ≤ tt := (by rcases Nat.lt_or_ge tt 8000 with h | h; exact absurd h14 (nI_ge (b := 8000) h (by decide)); omega)
        refine mg_iconst (v := (-1)) C dX2_seek_84 (by decide) ?_
        refine mg_widen (k' := 1) (n' := 8000) rfl rfl ?_
        exact mg_iret C hQ dX2_seek_85 (⟨ad, fl, g1, a1, v1, by rw [← hl1, show 8001 - tt = (8001 - (tt + 1)) + 1 by omega, skA, if_neg (by omega)], rfl⟩)
      · refine mg_iload C dX2_seek_17 rfl ?_
        refine mg_aload_n C dX2_seek_19 rfl ?_
        refine mg_get C inG_X2 fX2_33 (ci := 2) rfl rfl 4 rfl rfl dX2_seek_20 ?_
        refine mg_icmp_ge C 84 dX2_seek_23 (by decide) (fun h23 => ?_) (fun h23 => ?_)
        · have hge : B1.1 ≤ tt := (by rcases Nat.lt_or_ge tt B1.1 with h | h; exact absurd (by rw [j14] at h23; exact h23) (nI_ge h (by omega)); exact h)
          refine mg_iconst (v := (-1)) C dX2_seek_84 (by decide) ?_
          refine mg_widen (k' := 1) (n' := 8000) rfl rfl ?_
          exact mg_iret C hQ dX2_seek_85 (⟨ad, fl, g1, a1, v1, by rw [← hl1, show 8001 - tt = (8001 - (tt + 1)) + 1 by omega, skA, if_neg (by omega)], rfl⟩)
        · have hlt : tt < B1.1 := (by rcases Nat.lt_or_ge tt B1.1 with h | h; exact h; exact absurd (by rw [j14]; exact nI_le h (by omega)) h23)
          have hin4 : vp_in (nI tt) 8000 := vp_in_nI (by omega) (by decide)
          have esk : skA kN sN w0 (8001 - tt) tt B1 = (match fwc kN sN (B1.2.1 tt) w0 sN with | some _ => nI (dpt B1.2.2.1 tt tt) | none => match lpA kN sN tt sN B1 with | (false, _) => -5 | (true, B2) => skA kN sN w0 (8001 - (tt + 1)) (tt + 1) B2) := (by rw [show 8001 - tt = (8001 - (tt + 1)) + 1 by omega, skA, if_pos hlt]; rfl)
          refine mg_aload_n C dX2_seek_26 rfl ?_
          refine mg_aload_n C dX2_seek_27 rfl ?_
          refine mg_get C inG_X2 fX2_9 (ci := 2) rfl rfl 4 rfl rfl dX2_seek_28 ?_
          refine mg_iload C dX2_seek_31 rfl ?_
          refine mg_lald C 3 rfl (hin4) dX2_seek_33 ?_
          refine mg_callSN C (ct_X4_stateOf E _ _) oX2_36 rfl rfl rfl dX2_seek_34 (fun o34 w34 z34 => ?_)
          obtain ⟨rfl, rfl⟩ := z34
          refine mg_v ?_
          refine mg_tos (w := .int (nI (B1.2.1 tt))) (by rw [nI_clamp (by omega), j3 tt hlt]; exact congrArg Value.int (pv_state (by have q := (jB.2 tt hlt).1; omega) (jB.2 tt hlt).2.1 (jB.2 tt hlt).2.2.2)) ?_
          refine mg_callV C (ct_X2_openState E _ _ _ _ _ _ kN sN _ hk (by have q := (jB.2 tt hlt).1; omega) j10 j11 j12 j13 j5) oX2_40 4 rfl rfl rfl rfl rfl dX2_seek_37 (fun o37 w37 z37 => ?_)
          obtain ⟨a2, rfl, hta, hao, rfl⟩ := z37
          refine mg_v0 ?_
          have hI2 : CI kN sN B1 g1 a2 v1 := ⟨⟨j10, j11, j12, j13, j14⟩, jB, j3, fun y hy => by rw [hao 11 (by decide)]; exact j4 y hy, fun i hi => by rw [hta i (by omega), tabs, if_pos hi]⟩
          refine mg_aload_n C dX2_seek_40 rfl ?_
          refine mg_iload_n C dX2_seek_41 rfl ?_
          refine mg_callV C (ct_X2_cellWith E _ _ _ _ _ _ kN sN (B1.2.1 tt) w0 hk hw0 j11 hta) oX2_44 4 rfl rfl rfl rfl rfl dX2_seek_42 (fun o42 w42 z42 => ?_)
          obtain ⟨rfl, rfl⟩ := z42
          refine mg_v ?_
          refine mg_istore C dX2_seek_45 rfl ?_
          refine mg_lve (lv' := [(0, _), (1, _), (2, _), (3, _), (4, _), (5, _)]) rfl ?_
          refine mg_iload C dX2_seek_47 rfl ?_
          refine mg_iconst (v := (-1)) C dX2_seek_49 (by decide) ?_
          refine mg_icmp_eq C 66 dX2_seek_50 (by decide) (fun h50 => ?_) (fun h50 => ?_)
          · refine mg_aload_n C dX2_seek_66 rfl ?_
            refine mg_iload C dX2_seek_67 rfl ?_
            refine mg_callV C (ct_X2_meetAllFrom E _ _ _ _ _ _ kN sN B1 tt hk hI2 hlt hta) oX2_54 4 rfl rfl rfl rfl rfl dX2_seek_69 (fun o69 w69 z69 => ?_)
            obtain ⟨g3, a3, v3, rfl, hI3, hg3, ha3, rfl⟩ := z69
            refine mg_v ?_
            refine mg_if_ne C 78 dX2_seek_72 (by decide) (fun h72 => ?_) (fun h72 => ?_)
            · refine mg_iinc C dX2_seek_78 rfl rfl ?_
              refine mg_lve (lv' := [(0, _), (1, _), (2, _), (3, _), (4, _), (5, _)]) rfl ?_
              refine mg_goto C 9 dX2_seek_81 (by decide) ?_
              refine mg_lv (lv' := [(0, .ref (ad 4)), (1, .int (nI kN)), (2, .int (nI sN)), (3, .int (nI w0)), (4, .int (nI (tt + 1)))]) (lv_tk 5 (by rw [nI_succ tt]; rfl)) ?_
              refine ih (tt + 1) _ _ _ _ (by omega) hI3 (lpA_t (k := kN) (s := sN) sN B1 hlt) ?_
              rw [← hl1, esk, fwn0 hs5 h50]; dsimp only; rw [pair_t (bi1 h72)]
            · refine mg_bipush (v := (-5)) C dX2_seek_75 (by decide) ?_
              refine mg_widen (k' := 1) (n' := 8000) rfl rfl ?_
              exact mg_iret C hQ dX2_seek_77 (⟨ad, fl, g3, a3, v3, by rw [← hl1, esk, fwn0 hs5 h50]; dsimp only; rw [pair_f (bi0 h72)], rfl⟩)
          · refine mg_aload_n C dX2_seek_53 rfl ?_
            refine mg_iload C dX2_seek_54 rfl ?_
            refine mg_iload C dX2_seek_56 rfl ?_
            refine mg_callV C (ct_X2_keep E _ _ _ _ _ _ kN sN B1 tt _ hk hI2 hlt hfl) oX2_48 4 rfl rfl rfl rfl rfl dX2_seek_58 (fun o58 w58 z58 => ?_)
            obtain ⟨ad3, fl3, g3, a3, rfl, hg15, hg16, hgo, hao3, hado, hfl3, rfl⟩ := z58
            refine mg_v0 ?_
            rw [← hado 4 (by decide)]
            refine mg_aload_n C dX2_seek_61 rfl ?_
            refine mg_get C inG_X2 fX2_51 (ci := 2) rfl rfl 4 rfl rfl dX2_seek_62 ?_
            exact mg_iret C hQ dX2_seek_65 (⟨ad3, fl3, g3, a3, v1, by obtain ⟨cc, ecc⟩ := fws0 h50; rw [hg15, ← hl1, esk, ecc], rfl⟩)
  refine mg_aload_n C dX2_seek_0 rfl ?_
  refine mg_iload_n C dX2_seek_1 rfl ?_
  refine mg_iload_n C dX2_seek_2 rfl ?_
  refine mg_callV C (ct_X2_begin E _ _ _ _ _ _ kN sN hk) oX2_29 4 rfl rfl rfl rfl rfl dX2_seek_3 (fun o3 w3 z3 => ?_)
  obtain ⟨g1, a1, v1, rfl, hI1, hg1, ha1, rfl⟩ := z3
  refine mg_v0 ?_
  refine mg_iconst (v := 0) C dX2_seek_6 (by decide) ?_
  refine mg_istore C dX2_seek_7 rfl ?_
  refine mg_lve (lv' := [(0, _), (1, _), (2, _), (3, _), (4, _)]) rfl ?_
  exact loop 8002 0 Bb g1 a1 v1 (by omega) hI1 (Nat.zero_le _) rfl
def anFind (k s t : Int32) : Int32 := if wi k 1 3 = 0 then -2 else if wi s k 5 = 0 then -2 else if wi t 0 ((1 : Int32) <<< ((1 : Int32) <<< (k &&& 31) &&& 31) - 1) = 0 then -2 else skA k.toNatClampNeg s.toNatClampNeg t.toNatClampNeg 8001 0 Bb
theorem find_nat {k s t : Int32} (h1 : ¬ wi k 1 3 = 0) (h2 : ¬ wi s k 5 = 0) (h3 : ¬ wi t 0 ((1 : Int32) <<< ((1 : Int32) <<< (k &&& 31) &&& 31) - 1) = 0) : ∃ (kN sN w0 : Nat), k = nI kN ∧ s = nI sN ∧ t = nI w0 ∧ KS kN sN ∧ w0 < 256 := by
  obtain ⟨kN, e1, l1, u1⟩ := wi_nat h1 (by decide)
  have f1 : (1 : Int32).toInt = 1 := rfl
  have f3 : (3 : Int32).toInt = 3 := rfl
  have f5 : (5 : Int32).toInt = 5 := rfl
  have f0 : (0 : Int32).toInt = 0 := rfl
  rw [f1] at l1; rw [f3] at u1
  subst e1
  have hk3 : kN ≤ 3 := by omega
  obtain ⟨sN, e2, l2, u2⟩ := wi_nat h2 (by rw [nI_toInt (by omega)]; omega)
  rw [nI_toInt (by omega)] at l2; rw [f5] at u2
  rw [fm_eq hk3] at h3
  obtain ⟨w0, e3, l3, u3⟩ := wi_nat h3 (by decide)
  have hm := mk_lt hk3
  rw [nI_toInt (by omega)] at u3
  exact ⟨kN, sN, w0, rfl, e2, e3, ⟨⟨by omega, hk3⟩, by omega, by omega⟩, by omega⟩
set_option maxHeartbeats 400000 in
set_option maxRecDepth 100000 in
theorem ct_X4_find (E : En) (ad : Nat → Nat) (tl : va_W) (k s t : Int32) : Ct E mX4_find 5 1 8000 [.ref (ad 19), .int k, .int s, .int t] (cw E ad 16 gF aF vF tl) (fun o w => o = some (.int (anFind k s t)) ∧ ∃ L : va_W, w = L ++ tl) := by
  refine Ct.of (by decide) (Nat.le_of_ble_eq_true rfl) (fun X C hQ hin => ?_)
  have C : Cx E X cX4_find 4 RX4 (some .int) 5 200 1 8000 := C
  refine mg_iload_n C dX4_find_0 rfl ?_
  refine mg_iconst (v := 1) C dX4_find_1 (by decide) ?_
  refine mg_iconst (v := 3) C dX4_find_2 (by decide) ?_
  refine mg_callS C (ct_X4_within E _ _ _ _) oX4_39 rfl rfl rfl dX4_find_3 (fun o3 w3 z3 => ?_)
  obtain ⟨rfl, rfl⟩ := z3
  refine mg_v ?_
  refine mg_if_eq C 30 dX4_find_6 (by decide) (fun h6 => ?_) (fun h6 => ?_)
  · refine mg_bipush (v := (-2)) C dX4_find_30 (by decide) ?_
    refine mg_widen (k' := 1) (n' := 8000) rfl rfl ?_
    exact mg_iret C hQ dX4_find_32 (⟨by rw [anFind, if_pos h6] <;> first | rfl | decide, zx⟩)
  · refine mg_iload_n C dX4_find_9 rfl ?_
    refine mg_iload_n C dX4_find_10 rfl ?_
    refine mg_iconst (v := 5) C dX4_find_11 (by decide) ?_
    refine mg_callS C (ct_X4_within E _ _ _ _) oX4_39 rfl rfl rfl dX4_find_12 (fun o12 w12 z12 => ?_)
    obtain ⟨rfl, rfl⟩ := z12
    refine mg_v ?_
    refine mg_if_eq C 30 dX4_find_15 (by decide) (fun h15 => ?_) (fun h15 => ?_)
    · refine mg_bipush (v := (-2)) C dX4_find_30 (by decide) ?_
      refine mg_widen (k' := 1) (n' := 8000) rfl rfl ?_
      exact mg_iret C hQ dX4_find_32 (⟨by rw [anFind, if_neg h6, if_pos h15] <;> first | rfl | decide, zx⟩)
    · refine mg_iload_n C dX4_find_18 rfl ?_
      refine mg_iconst (v := 0) C dX4_find_19 (by decide) ?_
      refine mg_iload_n C dX4_find_20 rfl ?_
      refine mg_callS C (ct_X4_fullTable E _ _) oX4_161 rfl rfl rfl dX4_find_21 (fun o21 w21 z21 => ?_)
      obtain ⟨rfl, rfl⟩ := z21
      refine mg_v ?_
      refine mg_callS C (ct_X4_within E _ _ _ _) oX4_39 rfl rfl rfl dX4_find_24 (fun o24 w24 z24 => ?_)
      obtain ⟨rfl, rfl⟩ := z24
      refine mg_v ?_
      refine mg_if_ne C 33 dX4_find_27 (by decide) (fun h27 => ?_) (fun h27 => ?_)
      · have ean : anFind k s t = skA k.toNatClampNeg s.toNatClampNeg t.toNatClampNeg 8001 0 Bb := (by rw [anFind, if_neg h6, if_neg h15, if_neg h27])
        obtain ⟨kN, sN, w0, rfl, rfl, rfl, hks, hw0⟩ := find_nat h6 h15 h27
        rw [nI_clamp (by have q := hks.1.2; omega), nI_clamp (by have q := hks.2.2; omega), nI_clamp (by omega)] at ean
        refine mg_aload_n C dX4_find_33 rfl ?_
        refine mg_get C inG_X4 fX4_35 (ci := 4) rfl rfl 19 rfl rfl dX4_find_34 ?_
        refine mg_iload_n C dX4_find_37 rfl ?_
        refine mg_iload_n C dX4_find_38 rfl ?_
        refine mg_iload_n C dX4_find_39 rfl ?_
        refine mg_callVN C (ct_X2_seek E _ _ _ _ _ _ kN sN w0 hks hw0 (by decide)) oX4_164 4 rfl rfl rfl rfl rfl dX4_find_40 (fun o40 w40 z40 => ?_)
        obtain ⟨ad1, fl1, g1, a1, v1, rfl, rfl⟩ := z40
        refine mg_v ?_
        exact mg_iret C hQ dX4_find_43 (⟨by rw [ean], zx⟩)
      · refine mg_bipush (v := (-2)) C dX4_find_30 (by decide) ?_
        refine mg_widen (k' := 1) (n' := 8000) rfl rfl ?_
        exact mg_iret C hQ dX4_find_32 (⟨by rw [anFind, if_neg h6, if_neg h15, if_pos h27] <;> first | rfl | decide, zx⟩)
