/-! what class and reference share, in any state; LEVELS, ages, mapped rows and checks stay out of it -/
def shl : List Nat := [0, 1, 2, 3, 4, 5, 6, 8, 9, 14, 15, 16]
def fN (g : Nat → Int32) : Nat := (g 15).toNatClampNeg
def Sh (g : Nat → Int32) (a : Nat → Nat → Int32) (g1 : Nat → Int32) (a1 : Nat → Nat → Int32) : Prop :=
  (∀ i, i ∈ shl → g1 i = g i) ∧ (∀ j, j < 192 → a1 1 j = a 1 j) ∧ (∀ j, j < 8 → a1 3 j = a 3 j) ∧ (∀ j, j < 96 → a1 4 j = a 4 j) ∧ (∀ j, j < fN g → a1 13 j = a 13 j)
theorem Sh.rf {g : Nat → Int32} {a : Nat → Nat → Int32} : Sh g a g a := ⟨fun _ _ => rfl, fun _ _ => rfl, fun _ _ => rfl, fun _ _ => rfl, fun _ _ => rfl⟩
theorem Sh.fN {g g1 : Nat → Int32} {a a1 : Nat → Nat → Int32} (h : Sh g a g1 a1) : fN g1 = fN g := congrArg Int32.toNatClampNeg (h.1 15 (by decide))
theorem Sh.tr {g g1 g2 : Nat → Int32} {a a1 a2 : Nat → Nat → Int32} (h : Sh g a g1 a1) (k : Sh g1 a1 g2 a2) : Sh g a g2 a2 :=
  ⟨fun i hi => (k.1 i hi).trans (h.1 i hi), fun j hj => (k.2.1 j hj).trans (h.2.1 j hj), fun j hj => (k.2.2.1 j hj).trans (h.2.2.1 j hj), fun j hj => (k.2.2.2.1 j hj).trans (h.2.2.2.1 j hj), fun j hj => (k.2.2.2.2 j (by rw [h.fN]; exact hj)).trans (h.2.2.2.2 j hj)⟩
theorem Sh.sy {g g1 : Nat → Int32} {a a1 : Nat → Nat → Int32} (h : Sh g a g1 a1) : Sh g1 a1 g a :=
  ⟨fun i hi => (h.1 i hi).symm, fun j hj => (h.2.1 j hj).symm, fun j hj => (h.2.2.1 j hj).symm, fun j hj => (h.2.2.2.1 j hj).symm, fun j hj => (h.2.2.2.2 j (by rw [← h.fN]; exact hj)).symm⟩
/-- arrays that are not shared may be any -/
theorem Sh.ar {g : Nat → Int32} {a a1 : Nat → Nat → Int32} (h1 : a1 1 = a 1) (h3 : a1 3 = a 3) (h4 : a1 4 = a 4) (h13 : a1 13 = a 13) : Sh g a g a1 :=
  ⟨fun _ _ => rfl, fun _ _ => by rw [h1], fun _ _ => by rw [h3], fun _ _ => by rw [h4], fun _ _ => by rw [h13]⟩
def Dim (g : Nat → Int32) (R C T n m D : Nat) : Prop := (g 0 = nI R ∧ 1 ≤ R ∧ R ≤ 8) ∧ (g 1 = nI C ∧ 1 ≤ C ∧ C ≤ 24) ∧ (g 2 = nI T ∧ 1 ≤ T ∧ T ≤ 15) ∧ (g 4 = nI n ∧ n ≤ R) ∧ g 5 = nI m ∧ (g 6 = nI D ∧ D ≤ 6) ∧ 2 * D * m ≤ C ∧ (n = 0 → m = 0) ∧ (n ≠ 0 → 1 ≤ D ∧ 1 ≤ m)
def IV (fl : Nat) (g : Nat → Int32) (a : Nat → Nat → Int32) : Prop := ∃ R C T n m D F : Nat, Dim g R C T n m D ∧ (g 15 = nI F ∧ F ≤ fl ∧ fl ≤ 8000) ∧ (∀ i, i < 8 → ∃ r, r < 8 ∧ a 5 i = nI r) ∧ (∀ r c, r < 8 → c < 24 → (R ≤ r ∨ C ≤ c) → a 1 (r * 24 + c) = -1)
/-- IV speaks of shared scalars, of mapped rows and of CELLS that STICK alone -/
theorem IV.mv {fl : Nat} {g g1 : Nat → Int32} {a a1 : Nat → Nat → Int32} (h : IV fl g a) (hg : ∀ i, i ∈ shl → g1 i = g i) (h5 : ∀ i, i < 8 → ∃ r, r < 8 ∧ a1 5 i = nI r) (h1 : ∀ j, j < 192 → a1 1 j = a 1 j) : IV fl g1 a1 := by
  obtain ⟨R, C, T, n, m, D, F, ⟨⟨d0, d0', d0''⟩, ⟨d1, d1'⟩, ⟨d2, d2'⟩, ⟨d4, d4'⟩, d5, ⟨d6, d6'⟩, dd⟩, ⟨hF, hF'⟩, -, ho⟩ := h
  refine ⟨R, C, T, n, m, D, F, ⟨⟨(hg 0 (by decide)).trans d0, d0', d0''⟩, ⟨(hg 1 (by decide)).trans d1, d1'⟩, ⟨(hg 2 (by decide)).trans d2, d2'⟩, ⟨(hg 4 (by decide)).trans d4, d4'⟩, (hg 5 (by decide)).trans d5, ⟨(hg 6 (by decide)).trans d6, d6'⟩, dd⟩, ⟨(hg 15 (by decide)).trans hF, hF'⟩, h5, fun r c hr hc h => ?_⟩
  rw [h1 _ (by omega)]
  exact ho r c hr hc h
theorem IV.ar {fl : Nat} {g : Nat → Int32} {a a1 : Nat → Nat → Int32} (h : IV fl g a) (h5 : a1 5 = a 5) (h1 : a1 1 = a 1) : IV fl g a1 := by
  obtain ⟨R, C, T, n, m, D, F, hd, hF, hr, ho⟩ := id h
  exact h.mv (fun _ _ => rfl) (by rw [h5]; exact hr) (fun j _ => by rw [h1])
def pwI (b : Int32) : Nat → Int32
  | 0 => 1
  | n + 1 => pwI b n * b
def gre (g : Nat → Int32) : Int32 := pwI (g 2 + 1) (g 6).toNatClampNeg - 1
/-- the class keeps the greatest number that the digits hold -/
def GR (g : Nat → Int32) : Prop := g 4 = 0 ∨ g 7 = gre g
def CV (fl : Nat) (g : Nat → Int32) (a : Nat → Nat → Int32) : Prop := IV fl g a ∧ GR g
theorem CV.ar {fl : Nat} {g : Nat → Int32} {a a1 : Nat → Nat → Int32} (h : CV fl g a) (h5 : a1 5 = a 5) (h1 : a1 1 = a 1) : CV fl g a1 := ⟨h.1.ar h5 h1, h.2⟩
theorem hc_nat {g : Nat → Int32} {R C : Nat} {r c : Int32} (hR : g 0 = nI R) (h1 : 1 ≤ R ∧ R ≤ 8) (hC : g 1 = nI C) (h2 : 1 ≤ C ∧ C ≤ 24) (h : ¬ hc g r c = 0) : ∃ i j : Nat, r = nI i ∧ i < R ∧ c = nI j ∧ j < C := by
  unfold hc at h
  rw [hR, hC] at h
  have e1 : nI R - 1 = nI (R - 1) := by rw [show (1 : Int32) = nI 1 from rfl]; exact pk_sub h1.1
  have e2 : nI C - 1 = nI (C - 1) := by rw [show (1 : Int32) = nI 1 from rfl]; exact pk_sub h2.1
  rw [e1, e2] at h
  by_cases q1 : wi r 0 (nI (R - 1)) = 0
  · rw [if_pos q1] at h; exact absurd rfl h
  · rw [if_neg q1] at h
    by_cases q2 : wi c 0 (nI (C - 1)) = 0
    · rw [if_pos q2] at h; exact absurd rfl h
    · obtain ⟨i, e3, -, u3⟩ := wi_nat q1 (by decide)
      obtain ⟨j, e4, -, u4⟩ := wi_nat q2 (by decide)
      rw [nI_toInt (by omega)] at u3 u4
      exact ⟨i, j, e3, by omega, e4, by omega⟩
/-- a place below a count: what within() says -/
theorem wi_in {x : Int32} {g : Int32} {n : Nat} (hg : g = nI n) (hn : n < 2 ^ 31) (h : ¬ wi x 0 (g - 1) = 0) : ∃ j : Nat, x = nI j ∧ j < n := by
  rw [hg] at h
  rcases Nat.eq_zero_or_pos n with e | e
  · subst e
    exact absurd wim h
  · have e1 : nI n - 1 = nI (n - 1) := by rw [show (1 : Int32) = nI 1 from rfl]; exact pk_sub e
    rw [e1] at h
    obtain ⟨i, e3, -, u3⟩ := wi_nat h (by decide)
    rw [nI_toInt (by omega)] at u3
    exact ⟨i, e3, by omega⟩
theorem pl_eq (i j : Nat) : nI i * 24 + nI j = nI (i * 24 + j) := by rw [show (24 : Int32) = nI 24 from rfl, pk_mul, nI_add]
theorem pl_eq' (i j : Nat) : 24 * nI i + nI j = nI (i * 24 + j) := by rw [show (24 : Int32) = nI 24 from rfl, pk_mul, nI_add, Nat.mul_comm]
def gWrite (g : Nat → Int32) (a : Nat → Nat → Int32) (r c y : Int32) : Int32 := if hc g r c = 0 then -2 else if wi y 0 (g 2) = 0 then -2 else if sa a (r * 24 + c) y = 0 then 1 else -3
def gStick (g : Nat → Int32) (r c y : Int32) : Int32 := if hc g r c = 0 then -2 else if wi y (-1) (g 2) = 0 then -2 else 1
def aStick (g : Nat → Int32) (a : Nat → Nat → Int32) (r c y : Int32) : Nat → Nat → Int32 := if hc g r c = 0 then a else if wi y (-1) (g 2) = 0 then a else ups a 1 (r * 24 + c).toNatClampNeg y
theorem pu_sh {g : Nat → Int32} {a : Nat → Nat → Int32} {z y : Int32} : Sh g a g (pu a z y) := by
  unfold pu
  by_cases h : sk a z = 0
  · rw [if_pos h]; exact Sh.ar rfl rfl rfl rfl
  · rw [if_neg h]; exact Sh.ar rfl rfl rfl rfl
theorem pu_iv {fl : Nat} {g : Nat → Int32} {a : Nat → Nat → Int32} {z y : Int32} (h : IV fl g a) : IV fl g (pu a z y) := by
  unfold pu
  by_cases hs : sk a z = 0
  · rw [if_pos hs]; exact h.ar rfl rfl
  · rw [if_neg hs]; exact h.ar rfl rfl
theorem ho_sh {g : Nat → Int32} {a : Nat → Nat → Int32} {z y : Int32} : Sh g (ups a 1 z.toNatClampNeg y) g (ho a z y) := by
  unfold ho
  by_cases h : y = -1
  · rw [if_pos h]; exact Sh.rf
  · rw [if_neg h]; exact Sh.ar rfl rfl rfl rfl
theorem ho_iv {fl : Nat} {g : Nat → Int32} {a : Nat → Nat → Int32} {i j : Nat} {y : Int32} (h : IV fl g a) (hi : g 0 = nI 0 ∨ True) (hin : ∀ R C : Nat, g 0 = nI R → g 1 = nI C → R ≤ 8 → C ≤ 24 → i < R ∧ j < C) : IV fl g (ho a (nI i * 24 + nI j) y) := by
  obtain ⟨R, C, T, n, m, D, F, hd, hF, hr, ho1⟩ := id h
  obtain ⟨hiR, hjC⟩ := hin R C hd.1.1 hd.2.1.1 hd.1.2.2 hd.2.1.2.2
  have hR8 := hd.1.2.2
  have hC24 := hd.2.1.2.2
  have key : ∀ a1 : Nat → Nat → Int32, a1 5 = a 5 → a1 1 = upd (a 1) (nI i * 24 + nI j).toNatClampNeg y → IV fl g a1 := by
    intro a1 h5 h1
    refine ⟨R, C, T, n, m, D, F, hd, hF, by rw [h5]; exact hr, fun r c hr8 hc24 ho2 => ?_⟩
    rw [h1, pl_eq, nI_clamp (by omega), pk_un (by omega)]
    exact ho1 r c hr8 hc24 ho2
  unfold ho
  by_cases hy : y = -1
  · rw [if_pos hy]; exact key _ rfl rfl
  · rw [if_neg hy]; exact key _ rfl rfl
set_option maxHeartbeats 400000 in
set_option maxRecDepth 100000 in
theorem cv_write (E : En) (ad : Nat → Nat) (fl : Nat) (g : Nat → Int32) (a : Nat → Nat → Int32) (v : Nat → Int64) (tl : va_W) (r c y : Int32) (hV : CV fl g a) : Ct E mX4_write 2 0 0 [.ref (ad 19), .int r, .int c, .int y] (cw E ad fl g a v tl) (fun o w => ∃ (ad1 : Nat → Nat) (fl1 : Nat) (g1 : Nat → Int32) (a1 : Nat → Nat → Int32) (v1 : Nat → Int64), o = some (.int (gWrite g a r c y)) ∧ Sh g a g1 a1 ∧ CV fl1 g1 a1 ∧ ad1 19 = ad 19 ∧ w = cw E ad1 fl1 g1 a1 v1 tl) := by
  refine Ct.of (by decide) (Nat.le_of_ble_eq_true rfl) (fun X C hQ hin => ?_)
  have C : Cx E X cX4_write 5 RX4 (some .int) 2 80 0 0 := C
  obtain ⟨R, Cc, T, n, m, D, F, ⟨⟨d0, d0a, d0b⟩, ⟨d1, d1a, d1b⟩, ⟨d2, d2a, d2b⟩, ⟨d4, d4a⟩, d5, ⟨d6, d6a⟩, dcm, dn0, dn1⟩, ⟨dF, dF1, dF2⟩, drow, dout⟩ := id hV.1
  refine mg_aload_n C dX4_write_0 rfl ?_
  refine mg_get C inG_X4 fX4_10 (ci := 4) rfl rfl 19 rfl rfl dX4_write_1 ?_
  refine mg_iload_n C dX4_write_4 rfl ?_
  refine mg_iload_n C dX4_write_5 rfl ?_
  refine mg_callVN C (ct_X1_hasCell E _ _ _ _ _ _ _ _) oX4_54 18 rfl rfl rfl rfl rfl dX4_write_6 (fun o6 w6 z6 => ?_)
  obtain ⟨rfl, rfl⟩ := z6
  refine mg_v ?_
  refine mg_if_eq C 27 dX4_write_9 (by decide) (fun h9 => ?_) (fun h9 => ?_)
  · refine mg_bipush (v := (-2)) C dX4_write_27 (by decide) ?_
    exact mg_iret C hQ dX4_write_29 (⟨ad, fl, g, a, v, by rw [gWrite, if_pos h9] <;> first | rfl | decide, Sh.rf, hV, rfl, rfl⟩)
  · obtain ⟨i, j, rfl, hi, rfl, hj⟩ := hc_nat d0 ⟨d0a, d0b⟩ d1 ⟨d1a, d1b⟩ h9
    have hin9 : vp_in (nI i * 24 + nI j) 192 := (by rw [pl_eq]; exact vp_in_nI (by omega) (by decide))
    refine mg_iload_n C dX4_write_12 rfl ?_
    refine mg_iconst (v := 0) C dX4_write_13 (by decide) ?_
    refine mg_aload_n C dX4_write_14 rfl ?_
    refine mg_get C inG_X4 fX4_10 (ci := 4) rfl rfl 19 rfl rfl dX4_write_15 ?_
    refine mg_getN C inG_X1 fX4_58 (ci := 1) rfl rfl 18 rfl rfl dX4_write_18 ?_
    refine mg_callS C (ct_X4_within E _ _ _ _) oX4_39 rfl rfl rfl dX4_write_21 (fun o21 w21 z21 => ?_)
    obtain ⟨rfl, rfl⟩ := z21
    refine mg_v ?_
    refine mg_if_ne C 30 dX4_write_24 (by decide) (fun h24 => ?_) (fun h24 => ?_)
    · refine mg_aload_n C dX4_write_30 rfl ?_
      refine mg_get C inG_X4 fX4_10 (ci := 4) rfl rfl 19 rfl rfl dX4_write_31 ?_
      refine mg_iload_n C dX4_write_34 rfl ?_
      refine mg_iload_n C dX4_write_35 rfl ?_
      refine mg_callVN C (ct_X1_place E _ _ _ _ _ _ _ _) oX4_62 18 rfl rfl rfl rfl rfl dX4_write_36 (fun o36 w36 z36 => ?_)
      obtain ⟨rfl, rfl⟩ := z36
      refine mg_v ?_
      refine mg_istore C dX4_write_39 rfl ?_
      refine mg_lve (lv' := [(0, _), (1, _), (2, _), (3, _), (4, _)]) rfl ?_
      refine mg_aload_n C dX4_write_41 rfl ?_
      refine mg_get C inG_X4 fX4_10 (ci := 4) rfl rfl 19 rfl rfl dX4_write_42 ?_
      refine mg_iload C dX4_write_45 rfl ?_
      refine mg_iload_n C dX4_write_47 rfl ?_
      refine mg_callVN C (ct_X1_sticksAtAnother E _ _ _ _ _ _ _ _ hin9) oX4_66 18 rfl rfl rfl rfl rfl dX4_write_48 (fun o48 w48 z48 => ?_)
      obtain ⟨rfl, rfl⟩ := z48
      refine mg_v ?_
      refine mg_if_eq C 57 dX4_write_51 (by decide) (fun h51 => ?_) (fun h51 => ?_)
      · refine mg_aload_n C dX4_write_57 rfl ?_
        refine mg_get C inG_X4 fX4_10 (ci := 4) rfl rfl 19 rfl rfl dX4_write_58 ?_
        refine mg_iload C dX4_write_61 rfl ?_
        refine mg_iload_n C dX4_write_63 rfl ?_
        refine mg_callVN C (ct_X1_put E _ _ _ _ _ _ _ _ hin9) oX4_69 18 rfl rfl rfl rfl rfl dX4_write_64 (fun o64 w64 z64 => ?_)
        obtain ⟨rfl, rfl⟩ := z64
        refine mg_v0 ?_
        refine mg_iconst (v := 1) C dX4_write_67 (by decide) ?_
        exact mg_iret C hQ dX4_write_68 (by
    refine ⟨ad, fl, _, _, v, ?_, pu_sh, ⟨pu_iv hV.1, hV.2⟩, rfl, rfl⟩
    rw [gWrite, if_neg h9, if_neg h24, if_pos h51] <;> first | rfl | decide)
      · refine mg_bipush (v := (-3)) C dX4_write_54 (by decide) ?_
        exact mg_iret C hQ dX4_write_56 (⟨ad, fl, g, a, v, by rw [gWrite, if_neg h9, if_neg h24, if_neg h51] <;> first | rfl | decide, Sh.rf, hV, rfl, rfl⟩)
    · refine mg_bipush (v := (-2)) C dX4_write_27 (by decide) ?_
      exact mg_iret C hQ dX4_write_29 (⟨ad, fl, g, a, v, by rw [gWrite, if_neg h9, if_pos h24] <;> first | rfl | decide, Sh.rf, hV, rfl, rfl⟩)
set_option maxHeartbeats 400000 in
set_option maxRecDepth 100000 in
theorem cv_stick (E : En) (ad : Nat → Nat) (fl : Nat) (g : Nat → Int32) (a : Nat → Nat → Int32) (v : Nat → Int64) (tl : va_W) (r c y : Int32) (hV : CV fl g a) : Ct E mX4_stick 2 0 0 [.ref (ad 19), .int r, .int c, .int y] (cw E ad fl g a v tl) (fun o w => ∃ (ad1 : Nat → Nat) (fl1 : Nat) (g1 : Nat → Int32) (a1 : Nat → Nat → Int32) (v1 : Nat → Int64), o = some (.int (gStick g r c y)) ∧ Sh g (aStick g a r c y) g1 a1 ∧ CV fl1 g1 a1 ∧ ad1 19 = ad 19 ∧ w = cw E ad1 fl1 g1 a1 v1 tl) := by
  refine Ct.of (by decide) (Nat.le_of_ble_eq_true rfl) (fun X C hQ hin => ?_)
  have C : Cx E X cX4_stick 4 RX4 (some .int) 2 80 0 0 := C
  obtain ⟨R, Cc, T, n, m, D, F, ⟨⟨d0, d0a, d0b⟩, ⟨d1, d1a, d1b⟩, ⟨d2, d2a, d2b⟩, ⟨d4, d4a⟩, d5, ⟨d6, d6a⟩, dcm, dn0, dn1⟩, ⟨dF, dF1, dF2⟩, drow, dout⟩ := id hV.1
  refine mg_aload_n C dX4_stick_0 rfl ?_
  refine mg_get C inG_X4 fX4_10 (ci := 4) rfl rfl 19 rfl rfl dX4_stick_1 ?_
  refine mg_iload_n C dX4_stick_4 rfl ?_
  refine mg_iload_n C dX4_stick_5 rfl ?_
  refine mg_callVN C (ct_X1_hasCell E _ _ _ _ _ _ _ _) oX4_54 18 rfl rfl rfl rfl rfl dX4_stick_6 (fun o6 w6 z6 => ?_)
  obtain ⟨rfl, rfl⟩ := z6
  refine mg_v ?_
  refine mg_if_eq C 27 dX4_stick_9 (by decide) (fun h9 => ?_) (fun h9 => ?_)
  · refine mg_bipush (v := (-2)) C dX4_stick_27 (by decide) ?_
    exact mg_iret C hQ dX4_stick_29 (⟨ad, fl, g, a, v, by rw [gStick, if_pos h9] <;> first | rfl | decide, by rw [aStick, if_pos h9]; exact Sh.rf, hV, rfl, rfl⟩)
  · obtain ⟨i, j, rfl, hi, rfl, hj⟩ := hc_nat d0 ⟨d0a, d0b⟩ d1 ⟨d1a, d1b⟩ h9
    have hin9 : vp_in (nI i * 24 + nI j) 192 := (by rw [pl_eq]; exact vp_in_nI (by omega) (by decide))
    refine mg_iload_n C dX4_stick_12 rfl ?_
    refine mg_iconst (v := (-1)) C dX4_stick_13 (by decide) ?_
    refine mg_aload_n C dX4_stick_14 rfl ?_
    refine mg_get C inG_X4 fX4_10 (ci := 4) rfl rfl 19 rfl rfl dX4_stick_15 ?_
    refine mg_getN C inG_X1 fX4_58 (ci := 1) rfl rfl 18 rfl rfl dX4_stick_18 ?_
    refine mg_callS C (ct_X4_within E _ _ _ _) oX4_39 rfl rfl rfl dX4_stick_21 (fun o21 w21 z21 => ?_)
    obtain ⟨rfl, rfl⟩ := z21
    refine mg_v ?_
    refine mg_if_ne C 30 dX4_stick_24 (by decide) (fun h24 => ?_) (fun h24 => ?_)
    · refine mg_aload_n C dX4_stick_30 rfl ?_
      refine mg_get C inG_X4 fX4_10 (ci := 4) rfl rfl 19 rfl rfl dX4_stick_31 ?_
      refine mg_aload_n C dX4_stick_34 rfl ?_
      refine mg_get C inG_X4 fX4_10 (ci := 4) rfl rfl 19 rfl rfl dX4_stick_35 ?_
      refine mg_iload_n C dX4_stick_38 rfl ?_
      refine mg_iload_n C dX4_stick_39 rfl ?_
      refine mg_callVN C (ct_X1_place E _ _ _ _ _ _ _ _) oX4_62 18 rfl rfl rfl rfl rfl dX4_stick_40 (fun o40 w40 z40 => ?_)
      obtain ⟨rfl, rfl⟩ := z40
      refine mg_v ?_
      refine mg_iload_n C dX4_stick_43 rfl ?_
      refine mg_callVN C (ct_X1_hold E _ _ _ _ _ _ _ _ hin9) oX4_73 18 rfl rfl rfl rfl rfl dX4_stick_44 (fun o44 w44 z44 => ?_)
      obtain ⟨rfl, rfl⟩ := z44
      refine mg_v0 ?_
      refine mg_iconst (v := 1) C dX4_stick_47 (by decide) ?_
      exact mg_iret C hQ dX4_stick_48 (by
    refine ⟨ad, fl, _, _, v, ?_, ?_, ⟨ho_iv hV.1 (Or.inr trivial) (fun R1 C1 e0 e1 r8 c24 => ?_), hV.2⟩, rfl, rfl⟩
    · rw [gStick, if_neg h9, if_neg h24] <;> first | rfl | decide
    · rw [aStick, if_neg h9, if_neg h24]; exact ho_sh
    · have q0 := (nI_eq (by omega) (by omega)).mp (d0.symm.trans e0)
      have q1 := (nI_eq (by omega) (by omega)).mp (d1.symm.trans e1)
      omega)
    · refine mg_bipush (v := (-2)) C dX4_stick_27 (by decide) ?_
      exact mg_iret C hQ dX4_stick_29 (⟨ad, fl, g, a, v, by rw [gStick, if_neg h9, if_pos h24] <;> first | rfl | decide, by rw [aStick, if_neg h9, if_pos h24]; exact Sh.rf, hV, rfl, rfl⟩)
set_option maxHeartbeats 400000 in
set_option maxRecDepth 100000 in
theorem cv_cell (E : En) (ad : Nat → Nat) (fl : Nat) (g : Nat → Int32) (a : Nat → Nat → Int32) (v : Nat → Int64) (tl : va_W) (r c u : Int32) (hV : CV fl g a) : Ct E mX4_cell 2 0 0 [.ref (ad 19), .int r, .int c, .int u] (cw E ad fl g a v tl) (fun o w => ∃ (r : Int32) (ad1 : Nat → Nat) (fl1 : Nat) (g1 : Nat → Int32) (a1 : Nat → Nat → Int32) (v1 : Nat → Int64), o = some (.int r) ∧ Sh g a g1 a1 ∧ CV fl1 g1 a1 ∧ ad1 19 = ad 19 ∧ w = cw E ad1 fl1 g1 a1 v1 tl) := by
  refine Ct.of (by decide) (Nat.le_of_ble_eq_true rfl) (fun X C hQ hin => ?_)
  have C : Cx E X cX4_cell 4 RX4 (some .int) 2 80 0 0 := C
  obtain ⟨R, Cc, T, n, m, D, F, ⟨⟨d0, d0a, d0b⟩, ⟨d1, d1a, d1b⟩, ⟨d2, d2a, d2b⟩, ⟨d4, d4a⟩, d5, ⟨d6, d6a⟩, dcm, dn0, dn1⟩, ⟨dF, dF1, dF2⟩, drow, dout⟩ := id hV.1
  refine mg_aload_n C dX4_cell_0 rfl ?_
  refine mg_get C inG_X4 fX4_10 (ci := 4) rfl rfl 19 rfl rfl dX4_cell_1 ?_
  refine mg_iload_n C dX4_cell_4 rfl ?_
  refine mg_iload_n C dX4_cell_5 rfl ?_
  refine mg_callVN C (ct_X1_hasCell E _ _ _ _ _ _ _ _) oX4_54 18 rfl rfl rfl rfl rfl dX4_cell_6 (fun o6 w6 z6 => ?_)
  obtain ⟨rfl, rfl⟩ := z6
  refine mg_v ?_
  refine mg_if_eq C 21 dX4_cell_9 (by decide) (fun h9 => ?_) (fun h9 => ?_)
  · refine mg_bipush (v := (-2)) C dX4_cell_21 (by decide) ?_
    exact mg_iret C hQ dX4_cell_23 (⟨_, ad, fl, g, a, v, rfl, Sh.rf, hV, rfl, rfl⟩)
  · obtain ⟨i, j, rfl, hi, rfl, hj⟩ := hc_nat d0 ⟨d0a, d0b⟩ d1 ⟨d1a, d1b⟩ h9
    have hin9 : vp_in (nI i * 24 + nI j) 192 := (by rw [pl_eq]; exact vp_in_nI (by omega) (by decide))
    refine mg_iload_n C dX4_cell_12 rfl ?_
    refine mg_iconst (v := 0) C dX4_cell_13 (by decide) ?_
    refine mg_iconst (v := 2) C dX4_cell_14 (by decide) ?_
    refine mg_callS C (ct_X4_within E _ _ _ _) oX4_39 rfl rfl rfl dX4_cell_15 (fun o15 w15 z15 => ?_)
    obtain ⟨rfl, rfl⟩ := z15
    refine mg_v ?_
    refine mg_if_ne C 24 dX4_cell_18 (by decide) (fun h18 => ?_) (fun h18 => ?_)
    · refine mg_aload_n C dX4_cell_24 rfl ?_
      refine mg_get C inG_X4 fX4_10 (ci := 4) rfl rfl 19 rfl rfl dX4_cell_25 ?_
      refine mg_aload_n C dX4_cell_28 rfl ?_
      refine mg_get C inG_X4 fX4_10 (ci := 4) rfl rfl 19 rfl rfl dX4_cell_29 ?_
      refine mg_iload_n C dX4_cell_32 rfl ?_
      refine mg_iload_n C dX4_cell_33 rfl ?_
      refine mg_callVN C (ct_X1_place E _ _ _ _ _ _ _ _) oX4_62 18 rfl rfl rfl rfl rfl dX4_cell_34 (fun o34 w34 z34 => ?_)
      obtain ⟨rfl, rfl⟩ := z34
      refine mg_v ?_
      refine mg_iload_n C dX4_cell_37 rfl ?_
      refine mg_callVN C (ct_X1_tellCell E _ _ _ _ _ _ _ _ hin9) oX4_76 18 rfl rfl rfl rfl rfl dX4_cell_38 (fun o38 w38 z38 => ?_)
      obtain ⟨rfl, rfl⟩ := z38
      refine mg_v ?_
      exact mg_iret C hQ dX4_cell_41 (⟨_, ad, fl, g, a, v, rfl, Sh.rf, hV, rfl, rfl⟩)
    · refine mg_bipush (v := (-2)) C dX4_cell_21 (by decide) ?_
      exact mg_iret C hQ dX4_cell_23 (⟨_, ad, fl, g, a, v, rfl, Sh.rf, hV, rfl, rfl⟩)
def gInput (g : Nat → Int32) (a : Nat → Nat → Int32) (r x : Int32) : Int32 := if wi r 0 (g 0 - 1) = 0 then -2 else if wi x 0 255 = 0 then -2 else a 3 r.toNatClampNeg
def aInput (g : Nat → Int32) (a : Nat → Nat → Int32) (r x : Int32) : Nat → Nat → Int32 := if wi r 0 (g 0 - 1) = 0 then a else if wi x 0 255 = 0 then a else ups a 3 r.toNatClampNeg x
def gBits (g : Nat → Int32) (b : Int32) : Int32 := if wi b 1 16 = 0 then -2 else g 3
def sBits (g : Nat → Int32) (b : Int32) : Nat → Int32 := if wi b 1 16 = 0 then g else ug g 3 b
theorem CV.g3 {fl : Nat} {g : Nat → Int32} {a : Nat → Nat → Int32} {b : Int32} (h : CV fl g a) : CV fl (ug g 3 b) a := h
def gActAt (g : Nat → Int32) (a : Nat → Nat → Int32) (i u : Int32) : Int32 := if wi u 0 2 = 0 then -2 else if wi i 0 (g 15 - 1) = 0 then -1 else a 13 i.toNatClampNeg >>> ((6 - 3 * u : Int32) &&& 31) &&& 7
set_option maxHeartbeats 400000 in
set_option maxRecDepth 100000 in
theorem cv_input (E : En) (ad : Nat → Nat) (fl : Nat) (g : Nat → Int32) (a : Nat → Nat → Int32) (v : Nat → Int64) (tl : va_W) (r x : Int32) (hV : CV fl g a) : Ct E mX4_input 1 0 0 [.ref (ad 19), .int r, .int x] (cw E ad fl g a v tl) (fun o w => ∃ (ad1 : Nat → Nat) (fl1 : Nat) (g1 : Nat → Int32) (a1 : Nat → Nat → Int32) (v1 : Nat → Int64), o = some (.int (gInput g a r x)) ∧ Sh g (aInput g a r x) g1 a1 ∧ CV fl1 g1 a1 ∧ ad1 19 = ad 19 ∧ w = cw E ad1 fl1 g1 a1 v1 tl) := by
  refine Ct.of (by decide) (Nat.le_of_ble_eq_true rfl) (fun X C hQ hin => ?_)
  have C : Cx E X cX4_input 4 RX4 (some .int) 1 40 0 0 := C
  obtain ⟨R, Cc, T, n, m, D, F, ⟨⟨d0, d0a, d0b⟩, ⟨d1, d1a, d1b⟩, ⟨d2, d2a, d2b⟩, ⟨d4, d4a⟩, d5, ⟨d6, d6a⟩, dcm, dn0, dn1⟩, ⟨dF, dF1, dF2⟩, drow, dout⟩ := id hV.1
  refine mg_iload_n C dX4_input_0 rfl ?_
  refine mg_iconst (v := 0) C dX4_input_1 (by decide) ?_
  refine mg_aload_n C dX4_input_2 rfl ?_
  refine mg_get C inG_X4 fX4_10 (ci := 4) rfl rfl 19 rfl rfl dX4_input_3 ?_
  refine mg_getN C inG_X1 fX4_79 (ci := 1) rfl rfl 18 rfl rfl dX4_input_6 ?_
  refine mg_iconst (v := 1) C dX4_input_9 (by decide) ?_
  refine mg_isub C dX4_input_10 ?_
  refine mg_callS C (ct_X4_within E _ _ _ _) oX4_39 rfl rfl rfl dX4_input_11 (fun o11 w11 z11 => ?_)
  obtain ⟨rfl, rfl⟩ := z11
  refine mg_v ?_
  refine mg_if_eq C 28 dX4_input_14 (by decide) (fun h14 => ?_) (fun h14 => ?_)
  · refine mg_bipush (v := (-2)) C dX4_input_28 (by decide) ?_
    exact mg_iret C hQ dX4_input_30 (⟨ad, fl, g, a, v, by rw [gInput, if_pos h14] <;> first | rfl | decide, by rw [aInput, if_pos h14]; exact Sh.rf, hV, rfl, rfl⟩)
  · have hinr : vp_in r 8 := (by obtain ⟨i, ei, hi⟩ := wi_in d0 (by omega) h14; rw [ei]; exact vp_in_nI (by omega) (by decide))
    refine mg_iload_n C dX4_input_17 rfl ?_
    refine mg_iconst (v := 0) C dX4_input_18 (by decide) ?_
    refine mg_sipush (v := 255) C dX4_input_19 (by decide) ?_
    refine mg_callS C (ct_X4_within E _ _ _ _) oX4_39 rfl rfl rfl dX4_input_22 (fun o22 w22 z22 => ?_)
    obtain ⟨rfl, rfl⟩ := z22
    refine mg_v ?_
    refine mg_if_ne C 31 dX4_input_25 (by decide) (fun h25 => ?_) (fun h25 => ?_)
    · refine mg_aload_n C dX4_input_31 rfl ?_
      refine mg_get C inG_X4 fX4_10 (ci := 4) rfl rfl 19 rfl rfl dX4_input_32 ?_
      refine mg_getN C inG_X1 fX4_82 (ci := 1) rfl rfl 18 rfl rfl dX4_input_35 ?_
      refine mg_iload_n C dX4_input_38 rfl ?_
      refine mg_iald C 14 rfl (hinr) dX4_input_39 ?_
      refine mg_istore_n C dX4_input_40 rfl ?_
      refine mg_lve (lv' := [(0, _), (1, _), (2, _), (3, _)]) rfl ?_
      refine mg_aload_n C dX4_input_41 rfl ?_
      refine mg_get C inG_X4 fX4_10 (ci := 4) rfl rfl 19 rfl rfl dX4_input_42 ?_
      refine mg_getN C inG_X1 fX4_82 (ci := 1) rfl rfl 18 rfl rfl dX4_input_45 ?_
      refine mg_iload_n C dX4_input_48 rfl ?_
      refine mg_iload_n C dX4_input_49 rfl ?_
      refine mg_iast C 14 rfl (hinr) dX4_input_50 (ws' := (cw E ad fl g (ups a 3 (r : Int32).toNatClampNeg x) v tl)) rfl ?_
      refine mg_iload_n C dX4_input_51 rfl ?_
      exact mg_iret C hQ dX4_input_52 (⟨ad, fl, g, ups a 3 r.toNatClampNeg x, v, by rw [gInput, if_neg h14, if_neg h25] <;> first | rfl | decide, by rw [aInput, if_neg h14, if_neg h25]; exact Sh.rf, hV.ar rfl rfl, rfl, rfl⟩)
    · refine mg_bipush (v := (-2)) C dX4_input_28 (by decide) ?_
      exact mg_iret C hQ dX4_input_30 (⟨ad, fl, g, a, v, by rw [gInput, if_neg h14, if_pos h25] <;> first | rfl | decide, by rw [aInput, if_neg h14, if_pos h25]; exact Sh.rf, hV, rfl, rfl⟩)
set_option maxHeartbeats 400000 in
set_option maxRecDepth 100000 in
theorem cv_bits (E : En) (ad : Nat → Nat) (fl : Nat) (g : Nat → Int32) (a : Nat → Nat → Int32) (v : Nat → Int64) (tl : va_W) (b : Int32) (hV : CV fl g a) : Ct E mX4_bits 1 0 0 [.ref (ad 19), .int b] (cw E ad fl g a v tl) (fun o w => ∃ (ad1 : Nat → Nat) (fl1 : Nat) (g1 : Nat → Int32) (a1 : Nat → Nat → Int32) (v1 : Nat → Int64), o = some (.int (gBits g b)) ∧ Sh (sBits g b) a g1 a1 ∧ CV fl1 g1 a1 ∧ ad1 19 = ad 19 ∧ w = cw E ad1 fl1 g1 a1 v1 tl) := by
  refine Ct.of (by decide) (Nat.le_of_ble_eq_true rfl) (fun X C hQ hin => ?_)
  have C : Cx E X cX4_bits 3 RX4 (some .int) 1 40 0 0 := C
  obtain ⟨R, Cc, T, n, m, D, F, ⟨⟨d0, d0a, d0b⟩, ⟨d1, d1a, d1b⟩, ⟨d2, d2a, d2b⟩, ⟨d4, d4a⟩, d5, ⟨d6, d6a⟩, dcm, dn0, dn1⟩, ⟨dF, dF1, dF2⟩, drow, dout⟩ := id hV.1
  refine mg_iload_n C dX4_bits_0 rfl ?_
  refine mg_iconst (v := 1) C dX4_bits_1 (by decide) ?_
  refine mg_bipush (v := 16) C dX4_bits_2 (by decide) ?_
  refine mg_callS C (ct_X4_within E _ _ _ _) oX4_39 rfl rfl rfl dX4_bits_4 (fun o4 w4 z4 => ?_)
  obtain ⟨rfl, rfl⟩ := z4
  refine mg_v ?_
  refine mg_if_ne C 13 dX4_bits_7 (by decide) (fun h7 => ?_) (fun h7 => ?_)
  · refine mg_aload_n C dX4_bits_13 rfl ?_
    refine mg_get C inG_X4 fX4_10 (ci := 4) rfl rfl 19 rfl rfl dX4_bits_14 ?_
    refine mg_getN C inG_X1 fX4_86 (ci := 1) rfl rfl 18 rfl rfl dX4_bits_17 ?_
    refine mg_istore_n C dX4_bits_20 rfl ?_
    refine mg_lve (lv' := [(0, _), (1, _), (2, _)]) rfl ?_
    refine mg_aload_n C dX4_bits_21 rfl ?_
    refine mg_get C inG_X4 fX4_10 (ci := 4) rfl rfl 19 rfl rfl dX4_bits_22 ?_
    refine mg_iload_n C dX4_bits_25 rfl ?_
    refine mg_putN C inG_X1 fX4_86 (ci := 1) rfl rfl tyX1 tyX1_ok nmX1 rfl 18 rfl rfl rfl rfl dX4_bits_26 (ws' := (cw E ad fl (ug g 3 b) a v tl)) rfl ?_
    refine mg_iload_n C dX4_bits_29 rfl ?_
    exact mg_iret C hQ dX4_bits_30 (⟨ad, fl, ug g 3 b, a, v, by rw [gBits, if_neg h7] <;> first | rfl | decide, by rw [sBits, if_neg h7]; exact Sh.rf, hV.g3, rfl, rfl⟩)
  · refine mg_bipush (v := (-2)) C dX4_bits_10 (by decide) ?_
    exact mg_iret C hQ dX4_bits_12 (⟨ad, fl, g, a, v, by rw [gBits, if_pos h7] <;> first | rfl | decide, by rw [sBits, if_pos h7]; exact Sh.rf, hV, rfl, rfl⟩)
set_option maxHeartbeats 400000 in
set_option maxRecDepth 100000 in
theorem cv_where (E : En) (ad : Nat → Nat) (fl : Nat) (g : Nat → Int32) (a : Nat → Nat → Int32) (v : Nat → Int64) (tl : va_W)  (hV : CV fl g a) : Ct E mX4_where 0 0 0 [.ref (ad 19)] (cw E ad fl g a v tl) (fun o w => ∃ (ad1 : Nat → Nat) (fl1 : Nat) (g1 : Nat → Int32) (a1 : Nat → Nat → Int32) (v1 : Nat → Int64), o = some (.int (g 16)) ∧ Sh g a g1 a1 ∧ CV fl1 g1 a1 ∧ ad1 19 = ad 19 ∧ w = cw E ad1 fl1 g1 a1 v1 tl) := by
  refine Ct.of (by decide) (Nat.le_of_ble_eq_true rfl) (fun X C hQ hin => ?_)
  have C : Cx E X cX4_where 1 RX4 (some .int) 0 0 0 0 := C
  obtain ⟨R, Cc, T, n, m, D, F, ⟨⟨d0, d0a, d0b⟩, ⟨d1, d1a, d1b⟩, ⟨d2, d2a, d2b⟩, ⟨d4, d4a⟩, d5, ⟨d6, d6a⟩, dcm, dn0, dn1⟩, ⟨dF, dF1, dF2⟩, drow, dout⟩ := id hV.1
  refine mg_aload_n C dX4_where_0 rfl ?_
  refine mg_get C inG_X4 fX4_35 (ci := 4) rfl rfl 19 rfl rfl dX4_where_1 ?_
  refine mg_getN C inG_X2 fX4_176 (ci := 2) rfl rfl 4 rfl rfl dX4_where_4 ?_
  exact mg_iret C hQ dX4_where_7 (⟨ad, fl, g, a, v, rfl, Sh.rf, hV, rfl, rfl⟩)
set_option maxHeartbeats 400000 in
set_option maxRecDepth 100000 in
theorem cv_met (E : En) (ad : Nat → Nat) (fl : Nat) (g : Nat → Int32) (a : Nat → Nat → Int32) (v : Nat → Int64) (tl : va_W)  (hV : CV fl g a) : Ct E mX4_met 0 0 0 [.ref (ad 19)] (cw E ad fl g a v tl) (fun o w => ∃ (ad1 : Nat → Nat) (fl1 : Nat) (g1 : Nat → Int32) (a1 : Nat → Nat → Int32) (v1 : Nat → Int64), o = some (.int (g 14)) ∧ Sh g a g1 a1 ∧ CV fl1 g1 a1 ∧ ad1 19 = ad 19 ∧ w = cw E ad1 fl1 g1 a1 v1 tl) := by
  refine Ct.of (by decide) (Nat.le_of_ble_eq_true rfl) (fun X C hQ hin => ?_)
  have C : Cx E X cX4_met 1 RX4 (some .int) 0 0 0 0 := C
  obtain ⟨R, Cc, T, n, m, D, F, ⟨⟨d0, d0a, d0b⟩, ⟨d1, d1a, d1b⟩, ⟨d2, d2a, d2b⟩, ⟨d4, d4a⟩, d5, ⟨d6, d6a⟩, dcm, dn0, dn1⟩, ⟨dF, dF1, dF2⟩, drow, dout⟩ := id hV.1
  refine mg_aload_n C dX4_met_0 rfl ?_
  refine mg_get C inG_X4 fX4_35 (ci := 4) rfl rfl 19 rfl rfl dX4_met_1 ?_
  refine mg_getN C inG_X2 fX4_179 (ci := 2) rfl rfl 4 rfl rfl dX4_met_4 ?_
  exact mg_iret C hQ dX4_met_7 (⟨ad, fl, g, a, v, rfl, Sh.rf, hV, rfl, rfl⟩)
set_option maxHeartbeats 400000 in
set_option maxRecDepth 100000 in
theorem cv_actAt (E : En) (ad : Nat → Nat) (fl : Nat) (g : Nat → Int32) (a : Nat → Nat → Int32) (v : Nat → Int64) (tl : va_W) (i u : Int32) (hV : CV fl g a) : Ct E mX4_actAt 1 0 0 [.ref (ad 19), .int i, .int u] (cw E ad fl g a v tl) (fun o w => ∃ (ad1 : Nat → Nat) (fl1 : Nat) (g1 : Nat → Int32) (a1 : Nat → Nat → Int32) (v1 : Nat → Int64), o = some (.int (gActAt g a i u)) ∧ Sh g a g1 a1 ∧ CV fl1 g1 a1 ∧ ad1 19 = ad 19 ∧ w = cw E ad1 fl1 g1 a1 v1 tl) := by
  refine Ct.of (by decide) (Nat.le_of_ble_eq_true rfl) (fun X C hQ hin => ?_)
  have C : Cx E X cX4_actAt 3 RX4 (some .int) 1 40 0 0 := C
  obtain ⟨R, Cc, T, n, m, D, F, ⟨⟨d0, d0a, d0b⟩, ⟨d1, d1a, d1b⟩, ⟨d2, d2a, d2b⟩, ⟨d4, d4a⟩, d5, ⟨d6, d6a⟩, dcm, dn0, dn1⟩, ⟨dF, dF1, dF2⟩, drow, dout⟩ := id hV.1
  refine mg_iload_n C dX4_actAt_0 rfl ?_
  refine mg_iconst (v := 0) C dX4_actAt_1 (by decide) ?_
  refine mg_iconst (v := 2) C dX4_actAt_2 (by decide) ?_
  refine mg_callS C (ct_X4_within E _ _ _ _) oX4_39 rfl rfl rfl dX4_actAt_3 (fun o3 w3 z3 => ?_)
  obtain ⟨rfl, rfl⟩ := z3
  refine mg_v ?_
  refine mg_if_ne C 12 dX4_actAt_6 (by decide) (fun h6 => ?_) (fun h6 => ?_)
  · refine mg_iload_n C dX4_actAt_12 rfl ?_
    refine mg_iconst (v := 0) C dX4_actAt_13 (by decide) ?_
    refine mg_aload_n C dX4_actAt_14 rfl ?_
    refine mg_get C inG_X4 fX4_35 (ci := 4) rfl rfl 19 rfl rfl dX4_actAt_15 ?_
    refine mg_getN C inG_X2 fX4_167 (ci := 2) rfl rfl 4 rfl rfl dX4_actAt_18 ?_
    refine mg_iconst (v := 1) C dX4_actAt_21 (by decide) ?_
    refine mg_isub C dX4_actAt_22 ?_
    refine mg_callS C (ct_X4_within E _ _ _ _) oX4_39 rfl rfl rfl dX4_actAt_23 (fun o23 w23 z23 => ?_)
    obtain ⟨rfl, rfl⟩ := z23
    refine mg_v ?_
    refine mg_if_eq C 45 dX4_actAt_26 (by decide) (fun h26 => ?_) (fun h26 => ?_)
    · refine mg_iconst (v := (-1)) C dX4_actAt_45 (by decide) ?_
      exact mg_iret C hQ dX4_actAt_46 (⟨ad, fl, g, a, v, by rw [gActAt, if_neg h6, if_pos h26] <;> first | rfl | decide, Sh.rf, hV, rfl, rfl⟩)
    · have hini : vp_in i fl := (by obtain ⟨q, eq, hq⟩ := wi_in dF (by omega) h26; rw [eq]; exact vp_in_nI (by omega) (by omega))
      refine mg_aload_n C dX4_actAt_29 rfl ?_
      refine mg_get C inG_X4 fX4_35 (ci := 4) rfl rfl 19 rfl rfl dX4_actAt_30 ?_
      refine mg_getN C inG_X2 fX4_170 (ci := 2) rfl rfl 4 rfl rfl dX4_actAt_33 ?_
      refine mg_iload_n C dX4_actAt_36 rfl ?_
      refine mg_iald C 0 rfl (hini) dX4_actAt_37 ?_
      refine mg_iload_n C dX4_actAt_38 rfl ?_
      refine mg_callS C (ct_X4_actPart E _ _ _) oX4_173 rfl rfl rfl dX4_actAt_39 (fun o39 w39 z39 => ?_)
      obtain ⟨rfl, rfl⟩ := z39
      refine mg_v ?_
      refine mg_goto C 46 dX4_actAt_42 (by decide) ?_
      exact mg_iret C hQ dX4_actAt_46 (⟨ad, fl, g, a, v, by rw [gActAt, if_neg h6, if_neg h26] <;> first | rfl | decide, Sh.rf, hV, rfl, rfl⟩)
  · refine mg_bipush (v := (-2)) C dX4_actAt_9 (by decide) ?_
    exact mg_iret C hQ dX4_actAt_11 (⟨ad, fl, g, a, v, by rw [gActAt, if_pos h6] <;> first | rfl | decide, Sh.rf, hV, rfl, rfl⟩)
def bgs (g : Nat → Int32) (r c u : Int32) : Nat → Int32 := ug (ug (ug (ug (ug (rg g r c u) 4 0) 5 0) 6 0) 8 0) 9 0
def sMesh (g : Nat → Int32) (r c u : Int32) : Nat → Int32 := if wi r 1 8 = 0 then g else if wi c 1 24 = 0 then g else if wi u 1 15 = 0 then g else bgs g r c u
def aMesh (a : Nat → Nat → Int32) (r c u : Int32) : Nat → Nat → Int32 := if wi r 1 8 = 0 then a else if wi c 1 24 = 0 then a else if wi u 1 15 = 0 then a else ra a
theorem mesh_sh {g G : Nat → Int32} {a A : Nat → Nat → Int32} {r c u : Int32} (h : G = bgs g r c u) (h2 : A = ra a) : Sh G A (ug (dr (rg g r c u)) 9 0) (ra a) := by
  subst h; subst h2
  refine ⟨fun i hi => ?_, fun _ _ => rfl, fun _ _ => rfl, fun _ _ => rfl, fun _ _ => rfl⟩
  simp only [shl, List.mem_cons, List.not_mem_nil, or_false] at hi
  rcases hi with rfl | rfl | rfl | rfl | rfl | rfl | rfl | rfl | rfl | rfl | rfl | rfl <;> rfl
theorem wi_mk {x p q : Int32} {P Q : Nat} (hp : p.toInt = P) (hq : q.toInt = Q) (h : ¬ wi x p q = 0) : ∃ j : Nat, x = nI j ∧ P ≤ j ∧ j ≤ Q := by
  obtain ⟨j, e, l, u⟩ := wi_nat h (by omega)
  exact ⟨j, e, by omega, by omega⟩
theorem mesh_iv {fl : Nat} {g : Nat → Int32} {a : Nat → Nat → Int32} {r c u : Int32} (h : IV fl g a) (h1 : ¬ wi r 1 8 = 0) (h2 : ¬ wi c 1 24 = 0) (h3 : ¬ wi u 1 15 = 0) : IV fl (ug (dr (rg g r c u)) 9 0) (ra a) := by
  obtain ⟨R0, C0, T0, n0, m0, D0, F, hd, hF, hr, ho1⟩ := h
  obtain ⟨R, rfl, hR1, hR8⟩ := wi_mk (P := 1) (Q := 8) rfl rfl h1
  obtain ⟨C, rfl, hC1, hC2⟩ := wi_mk (P := 1) (Q := 24) rfl rfl h2
  obtain ⟨T, rfl, hT1, hT2⟩ := wi_mk (P := 1) (Q := 15) rfl rfl h3
  exact ⟨R, C, T, 0, 0, 0, F, ⟨⟨rfl, hR1, hR8⟩, ⟨rfl, hC1, hC2⟩, ⟨rfl, hT1, hT2⟩, ⟨rfl, Nat.zero_le _⟩, rfl, ⟨rfl, by omega⟩, by omega, fun _ => rfl, fun hh => absurd rfl hh⟩, hF, hr, fun _ _ _ _ _ => rfl⟩
set_option maxHeartbeats 400000 in
set_option maxRecDepth 100000 in
theorem cv_mesh (E : En) (ad : Nat → Nat) (fl : Nat) (g : Nat → Int32) (a : Nat → Nat → Int32) (v : Nat → Int64) (tl : va_W) (r c u : Int32) (hV : CV fl g a) : Ct E mX4_mesh 2 0 0 [.ref (ad 19), .int r, .int c, .int u] (cw E ad fl g a v tl) (fun o w => ∃ (ad1 : Nat → Nat) (fl1 : Nat) (g1 : Nat → Int32) (a1 : Nat → Nat → Int32) (v1 : Nat → Int64), o = some (.int (anMesh r c u)) ∧ Sh (sMesh g r c u) (aMesh a r c u) g1 a1 ∧ CV fl1 g1 a1 ∧ ad1 19 = ad 19 ∧ w = cw E ad1 fl1 g1 a1 v1 tl) := by
  refine Ct.of (by decide) (Nat.le_of_ble_eq_true rfl) (fun X C hQ hin => ?_)
  have C : Cx E X cX4_mesh 4 RX4 (some .int) 2 80 0 0 := C
  obtain ⟨R, Cc, T, n, m, D, F, ⟨⟨d0, d0a, d0b⟩, ⟨d1, d1a, d1b⟩, ⟨d2, d2a, d2b⟩, ⟨d4, d4a⟩, d5, ⟨d6, d6a⟩, dcm, dn0, dn1⟩, ⟨dF, dF1, dF2⟩, drow, dout⟩ := id hV.1
  refine mg_iload_n C dX4_mesh_0 rfl ?_
  refine mg_iconst (v := 1) C dX4_mesh_1 (by decide) ?_
  refine mg_bipush (v := 8) C dX4_mesh_2 (by decide) ?_
  refine mg_callS C (ct_X4_within E _ _ _ _) oX4_39 rfl rfl rfl dX4_mesh_4 (fun o4 w4 z4 => ?_)
  obtain ⟨rfl, rfl⟩ := z4
  refine mg_v ?_
  refine mg_if_eq C 30 dX4_mesh_7 (by decide) (fun h7 => ?_) (fun h7 => ?_)
  · refine mg_bipush (v := (-2)) C dX4_mesh_30 (by decide) ?_
    exact mg_iret C hQ dX4_mesh_32 (⟨ad, fl, g, a, v, by rw [anMesh, if_pos h7] <;> first | rfl | decide, by rw [sMesh, aMesh, if_pos h7, if_pos h7]; exact Sh.rf, hV, rfl, rfl⟩)
  · refine mg_iload_n C dX4_mesh_10 rfl ?_
    refine mg_iconst (v := 1) C dX4_mesh_11 (by decide) ?_
    refine mg_bipush (v := 24) C dX4_mesh_12 (by decide) ?_
    refine mg_callS C (ct_X4_within E _ _ _ _) oX4_39 rfl rfl rfl dX4_mesh_14 (fun o14 w14 z14 => ?_)
    obtain ⟨rfl, rfl⟩ := z14
    refine mg_v ?_
    refine mg_if_eq C 30 dX4_mesh_17 (by decide) (fun h17 => ?_) (fun h17 => ?_)
    · refine mg_bipush (v := (-2)) C dX4_mesh_30 (by decide) ?_
      exact mg_iret C hQ dX4_mesh_32 (⟨ad, fl, g, a, v, by rw [anMesh, if_neg h7, if_pos h17] <;> first | rfl | decide, by rw [sMesh, aMesh, if_neg h7, if_pos h17, if_neg h7, if_pos h17]; exact Sh.rf, hV, rfl, rfl⟩)
    · refine mg_iload_n C dX4_mesh_20 rfl ?_
      refine mg_iconst (v := 1) C dX4_mesh_21 (by decide) ?_
      refine mg_bipush (v := 15) C dX4_mesh_22 (by decide) ?_
      refine mg_callS C (ct_X4_within E _ _ _ _) oX4_39 rfl rfl rfl dX4_mesh_24 (fun o24 w24 z24 => ?_)
      obtain ⟨rfl, rfl⟩ := z24
      refine mg_v ?_
      refine mg_if_ne C 33 dX4_mesh_27 (by decide) (fun h27 => ?_) (fun h27 => ?_)
      · refine mg_aload_n C dX4_mesh_33 rfl ?_
        refine mg_get C inG_X4 fX4_10 (ci := 4) rfl rfl 19 rfl rfl dX4_mesh_34 ?_
        refine mg_iload_n C dX4_mesh_37 rfl ?_
        refine mg_iload_n C dX4_mesh_38 rfl ?_
        refine mg_iload_n C dX4_mesh_39 rfl ?_
        refine mg_callVN C (ct_X1_renew E _ _ _ _ _ _ _ _ _) oX4_43 18 rfl rfl rfl rfl rfl dX4_mesh_40 (fun o40 w40 z40 => ?_)
        obtain ⟨rfl, rfl⟩ := z40
        refine mg_v0 ?_
        refine mg_aload_n C dX4_mesh_43 rfl ?_
        refine mg_get C inG_X4 fX4_21 (ci := 4) rfl rfl 19 rfl rfl dX4_mesh_44 ?_
        refine mg_callVN C (ct_X3_drop E _ _ _ _ _ _) oX4_47 13 rfl rfl rfl rfl rfl dX4_mesh_47 (fun o47 w47 z47 => ?_)
        obtain ⟨rfl, rfl⟩ := z47
        refine mg_v0 ?_
        refine mg_aload_n C dX4_mesh_50 rfl ?_
        refine mg_get C inG_X4 fX4_28 (ci := 4) rfl rfl 19 rfl rfl dX4_mesh_51 ?_
        refine mg_iconst (v := 0) C dX4_mesh_54 (by decide) ?_
        refine mg_putN C inG_X0 fX4_50 (ci := 0) rfl rfl tyX0 tyX0_ok nmX0 rfl 7 rfl rfl rfl rfl dX4_mesh_55 (ws' := (cw E ad fl (ug (dr (rg g r c u)) 9 0) (ra a) v tl)) rfl ?_
        refine mg_iconst (v := 1) C dX4_mesh_58 (by decide) ?_
        exact mg_iret C hQ dX4_mesh_59 (by
    refine ⟨ad, fl, _, _, v, ?_, mesh_sh (by rw [sMesh, if_neg h7, if_neg h17, if_neg h27]) (by rw [aMesh, if_neg h7, if_neg h17, if_neg h27]), ⟨mesh_iv hV.1 h7 h17 h27, Or.inl rfl⟩, rfl, rfl⟩
    rw [anMesh, if_neg h7, if_neg h17, if_neg h27] <;> first | rfl | decide)
      · refine mg_bipush (v := (-2)) C dX4_mesh_30 (by decide) ?_
        exact mg_iret C hQ dX4_mesh_32 (⟨ad, fl, g, a, v, by rw [anMesh, if_neg h7, if_neg h17, if_pos h27] <;> first | rfl | decide, by rw [sMesh, aMesh, if_neg h7, if_neg h17, if_pos h27, if_neg h7, if_neg h17, if_pos h27]; exact Sh.rf, hV, rfl, rfl⟩)
