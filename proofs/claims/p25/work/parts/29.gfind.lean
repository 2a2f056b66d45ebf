/-- what the search ends with: the states met, and where the TABLE was found -/
def skF (k s w : Nat) : Nat → Nat → Bs → Bs × Option (Nat × Nat)
  | 0, _, B => (B, none)
  | n + 1, t, B => if t < B.1 then
      match fwc k s (B.2.1 t) w s with
      | some c => (B, some (t, c))
      | none => match lpA k s t s B with
        | (false, B1) => (B1, none)
        | (true, B1) => skF k s w n (t + 1) B1
    else (B, none)
/-- the acts on the way from t: the j-th -/
def chA (F A : Nat → Nat) : Nat → Nat → Nat → Nat
  | 0, _, _ => 0
  | n + 1, t, j => if dpt F t t = j + 1 then A t else chA F A n (F t) j
theorem chA_fuel {F A : Nat → Nat} {T : Nat} (hF : ∀ i, i ≤ T → i = 0 ∨ F i < i) : ∀ (n t m j : Nat), t ≤ T → t ≤ n → t ≤ m → j < dpt F t t → chA F A n t j = chA F A m t j := by
  intro n
  induction n with
  | zero =>
    intro t m j hT hn hm hj
    have e : t = 0 := by omega
    subst e
    exact absurd hj (Nat.not_lt_zero j)
  | succ n ih =>
    intro t m j hT hn hm hj
    by_cases e : t = 0
    · subst e; exact absurd hj (Nat.not_lt_zero j)
    · have h1 : F t < t := (hF t hT).resolve_left e
      have h2 := dpt_s hF hT e
      cases m with
      | zero => omega
      | succ m =>
        simp only [chA]
        by_cases h3 : dpt F t t = j + 1
        · rw [if_pos h3, if_pos h3]
        · rw [if_neg h3, if_neg h3]
          exact ih (F t) m j (by omega) (by omega) (by omega) (by omega)
theorem chA_top {F A : Nat → Nat} {T x : Nat} (hF : ∀ i, i ≤ T → i = 0 ∨ F i < i) (hT : x ≤ T) (h : x ≠ 0) : chA F A x x (dpt F (F x) (F x)) = A x := by
  have h2 := dpt_s hF hT h
  obtain ⟨u, rfl⟩ : ∃ u, x = u + 1 := ⟨x - 1, by omega⟩
  rw [chA, if_pos h2]
theorem chA_low {F A : Nat → Nat} {T x j : Nat} (hF : ∀ i, i ≤ T → i = 0 ∨ F i < i) (hT : x ≤ T) (h : x ≠ 0) (hj : j < dpt F (F x) (F x)) : chA F A x x j = chA F A (F x) (F x) j := by
  have h2 := dpt_s hF hT h
  have h1 : F x < x := (hF x hT).resolve_left h
  obtain ⟨u, rfl⟩ : ∃ u, x = u + 1 := ⟨x - 1, by omega⟩
  rw [chA, if_neg (by omega)]
  exact chA_fuel hF u (F (u + 1)) (F (u + 1)) j (by omega) (by omega) (Nat.le_refl _) hj
set_option maxHeartbeats 400000 in
set_option maxRecDepth 100000 in
theorem cx_X2_keep (E : En) (ad : Nat → Nat) (fl : Nat) (g : Nat → Int32) (a : Nat → Nat → Int32) (v : Nat → Int64) (tl : va_W) (kN sN : Nat) (B : Bs) (t0 : Nat) (c0 : Int32) (hk : KS kN sN) (hI : CI kN sN B g a v) (ht0 : t0 < B.1) (hfl : fl ≤ 8000) : Ct E mX2_keep 1 1 8000 [.ref (ad 4), .int (nI t0), .int c0] (cw E ad fl g a v tl) (fun o w => ∃ (ad1 : Nat → Nat) (fl1 : Nat) (g1 : Nat → Int32) (a1 : Nat → Nat → Int32), o = none ∧ g1 15 = nI (dpt B.2.2.1 t0 t0) ∧ g1 16 = c0 ∧ (∀ i, i ≠ 15 → i ≠ 16 → g1 i = g i) ∧ (∀ j, j ≠ 13 → a1 j = a j) ∧ (∀ j, j < dpt B.2.2.1 t0 t0 → a1 13 j = nI (chA B.2.2.1 B.2.2.2 t0 t0 j)) ∧ (∀ i, i ≠ 0 → ad1 i = ad i) ∧ dpt B.2.2.1 t0 t0 ≤ fl1 ∧ fl1 ≤ 8000 ∧ w = cw E ad1 fl1 g1 a1 v tl) := by
  refine Ct.of (by decide) (Nat.le_of_ble_eq_true rfl) (fun X C hQ hin => ?_)
  have C : Cx E X cX2_keep 5 RX2 none 1 40 1 8000 := C
  obtain ⟨-, iB, i3, -, -⟩ := id hI
  have hcap := cap_le hk
  have iB8 := iB.1
  have hF : ∀ i, i ≤ t0 → i = 0 ∨ B.2.2.1 i < i := fun i hi => (iB.2 i (by omega)).2.2.1
  obtain ⟨D, hD⟩ : ∃ D, D = dpt B.2.2.1 t0 t0 := ⟨_, rfl⟩
  have hDle : D ≤ t0 := (by rw [hD]; exact dpt_le hF t0 t0 (Nat.le_refl _) (Nat.le_refl _))
  have loop2 : ∀ (ad1 : Nat → Nat) (fl1 : Nat) (g1 : Nat → Int32), fl1 ≤ 8000 → D ≤ fl1 → g1 15 = nI (dpt B.2.2.1 t0 t0) → g1 16 = c0 → (∀ i, i ≠ 15 → i ≠ 16 → g1 i = g i) → (∀ i, i ≠ 0 → ad1 i = ad i) → ∀ (m x : Nat) (a1 : Nat → Nat → Int32), x < m → x ≤ t0 → dpt B.2.2.1 x x ≤ D → (∀ j, j ≠ 13 → a1 j = a j) → (∀ j, dpt B.2.2.1 x x ≤ j → j < D → a1 13 j = nI (chA B.2.2.1 B.2.2.2 t0 t0 j)) → (∀ j, j < dpt B.2.2.1 x x → chA B.2.2.1 B.2.2.2 x x j = chA B.2.2.1 B.2.2.2 t0 t0 j) → GG E X (cw E ad1 fl1 g1 a1 v tl) 1 8000 81 [(0, .ref (ad1 4)), (1, .int (nI t0)), (2, .int c0), (3, .int (nI (dpt B.2.2.1 x x) - 1)), (4, .int (nI x))] [] := by
    intro ad1 fl1 g1 hfl1 hD1 hg15 hg16 hgo hado m
    induction m with
    | zero => intro x a1 hm; omega
    | succ m ih =>
      intro x a1 hm hx hdD ho hc1 hc2
      refine mg_iload C dX2_keep_81 rfl ?_
      refine mg_if_le C 124 dX2_keep_83 (by decide) (fun h83 => ?_) (fun h83 => ?_)
      · exact mg_vret C hQ dX2_keep_124 (⟨ad1, fl1, g1, a1, rfl, hg15, hg16, hgo, ho, fun j hj => hc1 j (by have ex : x = 0 := (by rcases Nat.eq_zero_or_pos x with q | q; exact q; exact absurd h83 (nI_nle q (by omega))); rw [ex]; exact Nat.zero_le j) (by rw [hD]; exact hj), hado, by rw [← hD]; exact hD1, by omega, rfl⟩)
      · have hx0 : x ≠ 0 := (by intro e; rw [e] at h83; exact h83 (Int32.le_refl 0))
        have hin4 : vp_in (nI x) 8000 := vp_in_nI (by omega) (by decide)
        have hFx : B.2.2.1 x < x := (hF x hx).resolve_left hx0
        have hdx := dpt_s hF hx hx0
        have er : nI (dpt B.2.2.1 x x) - 1 = nI (dpt B.2.2.1 (B.2.2.1 x) (B.2.2.1 x)) := (by rw [hdx]; exact nI_pred _)
        refine mg_iload_n C dX2_keep_86 rfl ?_
        refine mg_if_lt C 124 dX2_keep_87 (by decide) (fun h87 => absurd h87 (by rw [er]; exact nI_pos (by omega))) (fun h87 => ?_)
        have hin3 : vp_in (nI (dpt B.2.2.1 x x) - 1) fl1 := (by rw [er]; exact vp_in_nI (by omega) (by omega))
        refine mg_aload_n C dX2_keep_90 rfl ?_
        refine mg_get C inG_X2 fX2_22 (ci := 2) rfl rfl 4 rfl rfl dX2_keep_91 ?_
        refine mg_iload_n C dX2_keep_94 rfl ?_
        refine mg_aload_n C dX2_keep_95 rfl ?_
        refine mg_get C inG_X2 fX2_9 (ci := 2) rfl rfl 4 rfl rfl dX2_keep_96 ?_
        refine mg_iload C dX2_keep_99 rfl ?_
        refine mg_lald C 3 rfl (hin4) dX2_keep_101 ?_
        refine mg_callSN C (ct_X4_cameBy E _ _) oX2_103 rfl rfl rfl dX2_keep_102 (fun o102 w102 z102 => ?_)
        obtain ⟨rfl, rfl⟩ := z102
        refine mg_v ?_
        refine mg_tos (w := .int (nI (B.2.2.2 x))) (by rw [nI_clamp (by omega), i3 x (by omega)]; exact congrArg Value.int (pv_act (by have q := (iB.2 x (by omega)).1; omega) (iB.2 x (by omega)).2.1 (iB.2 x (by omega)).2.2.2)) ?_
        refine mg_iast C 0 rfl (hin3) dX2_keep_105 (ws' := (cw E ad1 fl1 g1 (ups a1 13 ((nI (dpt B.2.2.1 x x) - 1) : Int32).toNatClampNeg (nI (B.2.2.2 x))) v tl)) rfl ?_
        refine mg_iinc C dX2_keep_106 rfl rfl ?_
        refine mg_lve (lv' := [(0, _), (1, _), (2, _), (3, _), (4, _)]) rfl ?_
        refine mg_aload_n C dX2_keep_109 rfl ?_
        refine mg_get C inG_X2 fX2_9 (ci := 2) rfl rfl 4 rfl rfl dX2_keep_110 ?_
        refine mg_iload C dX2_keep_113 rfl ?_
        refine mg_lald C 3 rfl (hin4) dX2_keep_115 ?_
        refine mg_callSN C (ct_X4_cameFrom E _ _) oX2_100 rfl rfl rfl dX2_keep_116 (fun o116 w116 z116 => ?_)
        obtain ⟨rfl, rfl⟩ := z116
        refine mg_v ?_
        refine mg_tos (w := .int (nI (B.2.2.1 x))) (by rw [nI_clamp (by omega), i3 x (by omega)]; exact congrArg Value.int (pv_from (by have q := (iB.2 x (by omega)).1; omega) (iB.2 x (by omega)).2.1 (iB.2 x (by omega)).2.2.2)) ?_
        refine mg_istore C dX2_keep_119 rfl ?_
        refine mg_lve (lv' := [(0, _), (1, _), (2, _), (3, _), (4, _)]) rfl ?_
        refine mg_goto C 81 dX2_keep_121 (by decide) ?_
        refine mg_lve (lv' := [(0, .ref (ad1 4)), (1, .int (nI t0)), (2, .int c0), (3, .int (nI (dpt B.2.2.1 (B.2.2.1 x) (B.2.2.1 x)) - 1)), (4, .int (nI (B.2.2.1 x)))]) ?_ ?_
        · have e1 : nI (dpt B.2.2.1 x x) - 1 + Int32.ofInt (-1) = nI (dpt B.2.2.1 (B.2.2.1 x) (B.2.2.1 x)) - 1 := (by rw [er]; exact sub1 _)
          rw [e1]
        · refine ih (B.2.2.1 x) _ (by omega) (by omega) (by omega) (fun j hj => (ups_n hj).trans (ho j hj)) (fun j hj1 hj2 => ?_) (fun j hj => ?_)
          · show upd (a1 13) _ _ j = _
            rw [er, nI_clamp (by omega)]
            by_cases ej : j = dpt B.2.2.1 (B.2.2.1 x) (B.2.2.1 x)
            · rw [ej, pk_us, ← hc2 _ (by omega), chA_top hF hx hx0]
            · rw [pk_un ej]; exact hc1 j (by omega) hj2
          · rw [← chA_low hF hx hx0 hj]; exact hc2 j (by omega)
  have go : ∀ (k n : Nat), Nat.ble k 1 = true → Nat.ble n 8000 = true → ∀ (ad1 : Nat → Nat) (fl1 : Nat) (g1 : Nat → Int32) (a1 : Nat → Nat → Int32), D ≤ fl1 → fl1 ≤ 8000 → g1 15 = nI D → g1 16 = c0 → (∀ i, i ≠ 15 → i ≠ 16 → g1 i = g i) → (∀ j, j ≠ 13 → a1 j = a j) → (∀ i, i ≠ 0 → ad1 i = ad i) → GG E X (cw E ad1 fl1 g1 a1 v tl) k n 71 [(0, .ref (ad1 4)), (1, .int (nI t0)), (2, .int c0), (3, .int (nI 0))] [] := by
    intro k n hkb hnb ad1 fl1 g1 a1 hD1 hfl1 hg15 hg16 hgo ho hado
    have hk1 := Nat.le_of_ble_eq_true hkb
    have hn1 := Nat.le_of_ble_eq_true hnb
    rw [hD] at hg15
    refine mg_aload_n C dX2_keep_71 rfl ?_
    refine mg_get C inG_X2 fX2_51 (ci := 2) rfl rfl 4 rfl rfl dX2_keep_72 ?_
    refine mg_iconst (v := 1) C dX2_keep_75 (by decide) ?_
    refine mg_isub C dX2_keep_76 ?_
    refine mg_istore_n C dX2_keep_77 rfl ?_
    refine mg_lve (lv' := [(0, _), (1, _), (2, _), (3, _)]) rfl ?_
    refine mg_iload_n C dX2_keep_78 rfl ?_
    refine mg_istore C dX2_keep_79 rfl ?_
    refine mg_lve (lv' := [(0, _), (1, _), (2, _), (3, _), (4, _)]) rfl ?_
    refine mg_widen' (k' := 1) (n' := 8000) (by omega) (by omega) ?_
    refine mg_lve (lv' := [(0, .ref (ad1 4)), (1, .int (nI t0)), (2, .int c0), (3, .int (nI (dpt B.2.2.1 t0 t0) - 1)), (4, .int (nI t0))]) ?_ ?_
    · rw [hg15]
    · exact loop2 ad1 fl1 g1 hfl1 hD1 hg15 hg16 hgo hado (t0 + 1) t0 a1 (by omega) (Nat.le_refl _) (by rw [hD]; exact Nat.le_refl _) ho (fun j hj1 hj2 => absurd hj2 (by rw [hD]; omega)) (fun _ _ => rfl)
  have mk : ¬ nI D ≤ nI fl → GG E X (cw E ad fl (ug (ug g 16 c0) 15 (nI D)) a v tl) 0 0 61 [(0, .ref (ad 4)), (1, .int (nI t0)), (2, .int c0), (3, .int (nI 0))] [] := by
    intro hlt
    refine mg_aload_n C dX2_keep_61 rfl ?_
    refine mg_aload_n C dX2_keep_62 rfl ?_
    refine mg_get C inG_X2 fX2_51 (ci := 2) rfl rfl 4 rfl rfl dX2_keep_63 ?_
    refine mg_newi C aI_ok (N := D) (nI_pos (by omega)) (nI_clamp (by omega)) (by show D * 4 ≤ _; omega) (by omega) (by omega) dX2_keep_66 (fun q => ?_)
    refine mg_put C inG_X2 fX2_22 (ci := 2) rfl rfl tyX2 tyX2_ok nmX2 rfl 5 rfl rfl rfl rfl dX2_keep_68 rfl ?_
    refine mg_drop2 ?_
    refine mg_ws (ws' := cw E (una ad q) D (ug (ug g 16 c0) 15 (nI D)) (upa a 13 (fun _ => 0)) v tl) rfl ?_
    exact go _ _ rfl (by show Nat.ble (0 + D) 8000 = true; exact Nat.ble_eq_true_of_le (by omega)) (una ad q) D (ug (ug g 16 c0) 15 (nI D)) (upa a 13 (fun _ => 0)) (Nat.le_refl _) (by omega) rfl rfl (fun i h1 h2 => (ug_n h1).trans (ug_n h2)) (fun j hj => upa_n hj) (fun i hi => una_n hi)
  have aft : GG E X (cw E ad fl (ug (ug g 16 c0) 15 (nI D)) a v tl) 0 0 49 [(0, .ref (ad 4)), (1, .int (nI t0)), (2, .int c0), (3, .int (nI 0))] [] := by
    refine mg_aload_n C dX2_keep_49 rfl ?_
    refine mg_get C inG_X2 fX2_51 (ci := 2) rfl rfl 4 rfl rfl dX2_keep_50 ?_
    refine mg_aload_n C dX2_keep_53 rfl ?_
    refine mg_get C inG_X2 fX2_22 (ci := 2) rfl rfl 4 rfl rfl dX2_keep_54 ?_
    refine mg_alen C 0 rfl rfl dX2_keep_57 ?_
    refine mg_icmp_le C 71 dX2_keep_58 (by decide) (fun h58 => ?_) (fun h58 => ?_)
    · exact go 0 0 rfl rfl ad fl (ug (ug g 16 c0) 15 (nI D)) a (by have h9 : nI D ≤ nI fl := h58; exact (nI_leI (by omega) (by omega)).mp h9) hfl rfl rfl (fun i h1 h2 => (ug_n h1).trans (ug_n h2)) (fun _ _ => rfl) (fun _ _ => rfl)
    · exact mk h58
  have loop1 : ∀ (m x n : Nat), x < m → x ≤ t0 → n + dpt B.2.2.1 x x = D → GG E X (cw E ad fl (ug (ug g 16 c0) 15 (nI n)) a v tl) 0 0 12 [(0, .ref (ad 4)), (1, .int (nI t0)), (2, .int c0), (3, .int (nI x))] [] := by
    intro m
    induction m with
    | zero => intro x n hm; omega
    | succ m ih =>
      intro x n hm hx hn
      refine mg_iload_n C dX2_keep_12 rfl ?_
      refine mg_if_le C 49 dX2_keep_13 (by decide) (fun h13 => ?_) (fun h13 => ?_)
      · have ex : x = 0 := (by rcases Nat.eq_zero_or_pos x with q | q; exact q; exact absurd h13 (nI_nle q (by omega)))
        subst ex
        have en : n = D := (by rw [← hn]; rfl)
        subst en
        exact aft
      · have hx0 : x ≠ 0 := (by intro e; rw [e] at h13; exact h13 (Int32.le_refl 0))
        have hin3 : vp_in (nI x) 8000 := vp_in_nI (by omega) (by decide)
        have hFx : B.2.2.1 x < x := (hF x hx).resolve_left hx0
        have hdx := dpt_s hF hx hx0
        refine mg_aload_n C dX2_keep_16 rfl ?_
        refine mg_get C inG_X2 fX2_51 (ci := 2) rfl rfl 4 rfl rfl dX2_keep_17 ?_
        refine mg_sipush (v := 8000) C dX2_keep_20 (by decide) ?_
        refine mg_icmp_ge C 49 dX2_keep_23 (by decide) (fun h23 => absurd h23 (nI_ge (b := 8000) (by omega) (by decide))) (fun h23 => ?_)
        refine mg_aload_n C dX2_keep_26 rfl ?_
        refine mg_dup C dX2_keep_27 rfl ?_
        refine mg_get C inG_X2 fX2_51 (ci := 2) rfl rfl 4 rfl rfl dX2_keep_28 ?_
        refine mg_iconst (v := 1) C dX2_keep_31 (by decide) ?_
        refine mg_iadd C dX2_keep_32 ?_
        refine mg_tos (w := .int (nI (n + 1))) (congrArg Value.int (nI_1 n)) ?_
        refine mg_put C inG_X2 fX2_51 (ci := 2) rfl rfl tyX2 tyX2_ok nmX2 rfl 4 rfl rfl rfl rfl dX2_keep_33 (ws' := (cw E ad fl (ug (ug (ug g 16 c0) 15 (nI n)) 15 (nI (n + 1))) a v tl)) rfl ?_
        refine mg_aload_n C dX2_keep_36 rfl ?_
        refine mg_get C inG_X2 fX2_9 (ci := 2) rfl rfl 4 rfl rfl dX2_keep_37 ?_
        refine mg_iload_n C dX2_keep_40 rfl ?_
        refine mg_lald C 3 rfl (hin3) dX2_keep_41 ?_
        refine mg_callSN C (ct_X4_cameFrom E _ _) oX2_100 rfl rfl rfl dX2_keep_42 (fun o42 w42 z42 => ?_)
        obtain ⟨rfl, rfl⟩ := z42
        refine mg_v ?_
        refine mg_tos (w := .int (nI (B.2.2.1 x))) (by rw [nI_clamp (by omega), i3 x (by omega)]; exact congrArg Value.int (pv_from (by have q := (iB.2 x (by omega)).1; omega) (iB.2 x (by omega)).2.1 (iB.2 x (by omega)).2.2.2)) ?_
        refine mg_istore_n C dX2_keep_45 rfl ?_
        refine mg_lve (lv' := [(0, _), (1, _), (2, _), (3, _)]) rfl ?_
        refine mg_goto C 12 dX2_keep_46 (by decide) ?_
        refine mg_ws (ws' := cw E ad fl (ug (ug g 16 c0) 15 (nI (n + 1))) a v tl) ?_ ?_
        · exact congrArg (fun z => cw E ad fl z a v tl) (ug2 _ _ _ _)
        · exact ih (B.2.2.1 x) (n + 1) (by omega) (by omega) (by omega)
  refine mg_aload_n C dX2_keep_0 rfl ?_
  refine mg_iload_n C dX2_keep_1 rfl ?_
  refine mg_put C inG_X2 fX2_25 (ci := 2) rfl rfl tyX2 tyX2_ok nmX2 rfl 4 rfl rfl rfl rfl dX2_keep_2 (ws' := (cw E ad fl (ug g 16 c0) a v tl)) rfl ?_
  refine mg_aload_n C dX2_keep_5 rfl ?_
  refine mg_iconst (v := 0) C dX2_keep_6 (by decide) ?_
  refine mg_put C inG_X2 fX2_51 (ci := 2) rfl rfl tyX2 tyX2_ok nmX2 rfl 4 rfl rfl rfl rfl dX2_keep_7 (ws' := (cw E ad fl (ug (ug g 16 c0) 15 0) a v tl)) rfl ?_
  refine mg_iload_n C dX2_keep_10 rfl ?_
  refine mg_istore_n C dX2_keep_11 rfl ?_
  refine mg_lve (lv' := [(0, _), (1, _), (2, _), (3, _)]) rfl ?_
  exact loop1 (t0 + 1) t0 0 (by omega) (Nat.le_refl _) (by omega)
