theorem vin0 : vp_in (0 * 24 + 0) 192 := by unfold vp_in; decide
theorem vin0' : vp_in (24 * 0 + 0) 192 := by unfold vp_in; decide
theorem vin00 : vp_in 0 8 := by unfold vp_in; decide
theorem i32_eq0 {x : Int32} (h1 : ¬ x < 0) (h2 : ¬ 0 < x) : x = 0 := Int32.le_antisymm (Int32.not_lt.mp h2) (Int32.not_lt.mp h1)
theorem wi0 {x : Int32} (h : ¬ wi x 0 0 = 0) : x = 0 := by
  unfold wi at h
  by_cases h1 : x < 0
  · rw [if_pos h1] at h; exact absurd rfl h
  · rw [if_neg h1] at h
    by_cases h2 : 0 < x
    · rw [if_pos h2] at h; exact absurd rfl h
    · exact i32_eq0 h1 h2
theorem wim {x : Int32} : wi x 0 (-1) = 0 := by
  unfold wi
  by_cases h1 : x < 0
  · rw [if_pos h1]
  · rw [if_neg h1, if_pos]
    have h2 := Int32.not_lt.mp h1
    rw [Int32.le_iff_toInt_le] at h2
    rw [Int32.lt_iff_toInt_lt]
    have e0 : (0 : Int32).toInt = 0 := rfl
    have e1 : (-1 : Int32).toInt = -1 := rfl
    omega
theorem wi_get {x p q : Int32} (h : ¬ wi x p q = 0) : p.toInt ≤ x.toInt ∧ x.toInt ≤ q.toInt := by
  unfold wi at h
  by_cases h1 : x < p
  · rw [if_pos h1] at h; exact absurd rfl h
  · rw [if_neg h1] at h
    by_cases h2 : q < x
    · rw [if_pos h2] at h; exact absurd rfl h
    · exact ⟨Int32.le_iff_toInt_le.mp (Int32.not_lt.mp h1), Int32.le_iff_toInt_le.mp (Int32.not_lt.mp h2)⟩
theorem wi_nat {x p q : Int32} (h : ¬ wi x p q = 0) (hp : 0 ≤ p.toInt) : ∃ j : Nat, x = nI j ∧ p.toInt ≤ j ∧ (j : Int) ≤ q.toInt := by
  obtain ⟨h1, h2⟩ := wi_get h
  have h0 : ¬ x < 0 := fun hh => by
    rw [Int32.lt_iff_toInt_lt] at hh
    have e0 : (0 : Int32).toInt = 0 := rfl
    omega
  obtain ⟨j, hj, e⟩ := nI_of h0
  subst e
  rw [nI_toInt hj] at h1 h2
  exact ⟨j, rfl, h1, h2⟩
theorem hcF {r c : Int32} (h : ¬ hc gF r c = 0) : r = 0 ∧ c = 0 := by
  unfold hc at h
  by_cases h1 : wi r 0 (gF 0 - 1) = 0
  · rw [if_pos h1] at h; exact absurd rfl h
  · rw [if_neg h1] at h
    by_cases h2 : wi c 0 (gF 1 - 1) = 0
    · rw [if_pos h2] at h; exact absurd rfl h
    · exact ⟨wi0 h1, wi0 h2⟩
theorem tabF {m d : Int32} (h1 : ¬ wi m 1 12 = 0) (h2 : ¬ wi d 1 6 = 0) : ¬ 2 * d * m ≤ gF 1 := by
  obtain ⟨i, e1, l1, u1⟩ := wi_nat h1 (by decide)
  obtain ⟨j, e2, l2, u2⟩ := wi_nat h2 (by decide)
  have f1 : (1 : Int32).toInt = 1 := rfl
  have f12 : (12 : Int32).toInt = 12 := rfl
  have f6 : (6 : Int32).toInt = 6 := rfl
  rw [f1] at l1 l2; rw [f12] at u1; rw [f6] at u2
  subst e1; subst e2
  have hi : i ≤ 12 := by omega
  have hj : j ≤ 6 := by omega
  have e3 : (2 : Int32) * nI j * nI i = nI (2 * j * i) := by
    rw [show (2 : Int32) = nI 2 from rfl, pk_mul, pk_mul]
  rw [e3, show gF 1 = nI 1 from rfl]
  have h3 : 1 < 2 * j * i := by
    have : 1 * 1 ≤ j * i := Nat.mul_le_mul (by omega) (by omega)
    have h5 : 2 * j * i = 2 * (j * i) := Nat.mul_assoc 2 j i
    omega
  have h4 : 2 * j * i ≤ 2 * 6 * 12 := Nat.mul_le_mul (Nat.mul_le_mul (Nat.le_refl 2) hj) hi
  exact nI_ge h3 (by omega)
-- what a fresh object answers
def anMesh (r c u : Int32) : Int32 := if wi r 1 8 = 0 then -2 else if wi c 1 24 = 0 then -2 else if wi u 1 15 = 0 then -2 else 1
def anWrite (r c y : Int32) : Int32 := if hc gF r c = 0 then -2 else if wi y 0 (gF 2) = 0 then -2 else 1
def anStick (r c y : Int32) : Int32 := if hc gF r c = 0 then -2 else if wi y (-1) (gF 2) = 0 then -2 else 1
def anCell (r c u : Int32) : Int32 := if hc gF r c = 0 then -2 else if wi u 0 2 = 0 then -2 else if u = 0 then 0 else if u = 1 then -1 else 0
def anInput (r x : Int32) : Int32 := if wi r 0 (gF 0 - 1) = 0 then -2 else if wi x 0 255 = 0 then -2 else 0
def anBits (b : Int32) : Int32 := if wi b 1 16 = 0 then -2 else 16
def anSum (c : Int32) : Int32 := if wi c 0 (gF 1 - 1) = 0 then -2 else 0
def anTable (n m d : Int32) : Int32 := if wi n 1 (gF 0) = 0 then -2 else if wi m 1 12 = 0 then -2 else if wi d 1 6 = 0 then -2 else -3
def anMapped (i : Int32) : Int32 := if 0 ≤ i then -3 else -2
def anFade (k : Int32) : Int32 := if wi k 1 100 = 0 then -2 else 0
def anPulse (r c y : Int32) : Int32 := if hc gF r c = 0 then -2 else if wi y 0 (gF 2) = 0 then -2 else y
def anActAt (u : Int32) : Int32 := if wi u 0 2 = 0 then -2 else -1
set_option maxHeartbeats 400000 in
set_option maxRecDepth 100000 in
theorem ct_X4_mesh (E : En) (ad : Nat → Nat) (tl : va_W) (r c u : Int32)  : Ct E mX4_mesh 2 0 0 [.ref (ad 19), .int r, .int c, .int u] (cw E ad 16 gF aF vF tl) (fun o w => o = some (.int (anMesh r c u)) ∧ ∃ L : va_W, w = L ++ tl) := by
  refine Ct.of (by decide) (Nat.le_of_ble_eq_true rfl) (fun X C hQ hin => ?_)
  have C : Cx E X cX4_mesh 4 RX4 (some .int) 2 80 0 0 := C
  refine mg_iload_n C dX4_mesh_0 rfl ?_
  refine mg_iconst (v := 1) C dX4_mesh_1 (by decide) ?_
  refine mg_bipush (v := 8) C dX4_mesh_2 (by decide) ?_
  refine mg_callS C (ct_X4_within E _ _ _ _) oX4_39 rfl rfl rfl dX4_mesh_4 (fun o4 w4 z4 => ?_)
  obtain ⟨rfl, rfl⟩ := z4
  refine mg_v ?_
  refine mg_if_eq C 30 dX4_mesh_7 (by decide) (fun h7 => ?_) (fun h7 => ?_)
  · refine mg_bipush (v := (-2)) C dX4_mesh_30 (by decide) ?_
    exact mg_iret C hQ dX4_mesh_32 (⟨by rw [anMesh, if_pos h7] <;> first | rfl | decide, zx⟩)
  · refine mg_iload_n C dX4_mesh_10 rfl ?_
    refine mg_iconst (v := 1) C dX4_mesh_11 (by decide) ?_
    refine mg_bipush (v := 24) C dX4_mesh_12 (by decide) ?_
    refine mg_callS C (ct_X4_within E _ _ _ _) oX4_39 rfl rfl rfl dX4_mesh_14 (fun o14 w14 z14 => ?_)
    obtain ⟨rfl, rfl⟩ := z14
    refine mg_v ?_
    refine mg_if_eq C 30 dX4_mesh_17 (by decide) (fun h17 => ?_) (fun h17 => ?_)
    · refine mg_bipush (v := (-2)) C dX4_mesh_30 (by decide) ?_
      exact mg_iret C hQ dX4_mesh_32 (⟨by rw [anMesh, if_neg h7, if_pos h17] <;> first | rfl | decide, zx⟩)
    · refine mg_iload_n C dX4_mesh_20 rfl ?_
      refine mg_iconst (v := 1) C dX4_mesh_21 (by decide) ?_
      refine mg_bipush (v := 15) C dX4_mesh_22 (by decide) ?_
      refine mg_callS C (ct_X4_within E _ _ _ _) oX4_39 rfl rfl rfl dX4_mesh_24 (fun o24 w24 z24 => ?_)
      obtain ⟨rfl, rfl⟩ := z24
      refine mg_v ?_
      refine mg_if_ne C 33 dX4_mesh_27 (by decide) (fun h27 => ?_) (fun h27 => ?_)
      · refine mg_aload_n C dX4_mesh_33 rfl ?_
        refine mg_get C inG_X4 fX4_10 (ci := 4) rfl rfl 19 rfl rfl dX4_mesh_34 ?_
        refine mg_iload_n C dX4_mesh_37 rfl ?_
        refine mg_iload_n C dX4_mesh_38 rfl ?_
        refine mg_iload_n C dX4_mesh_39 rfl ?_
        refine mg_callVN C (ct_X1_renew E _ _ _ _ _ _ _ _ _) oX4_43 18 rfl rfl rfl rfl rfl dX4_mesh_40 (fun o40 w40 z40 => ?_)
        obtain ⟨rfl, rfl⟩ := z40
        refine mg_v0 ?_
        refine mg_aload_n C dX4_mesh_43 rfl ?_
        refine mg_get C inG_X4 fX4_21 (ci := 4) rfl rfl 19 rfl rfl dX4_mesh_44 ?_
        refine mg_callVN C (ct_X3_drop E _ _ _ _ _ _) oX4_47 13 rfl rfl rfl rfl rfl dX4_mesh_47 (fun o47 w47 z47 => ?_)
        obtain ⟨rfl, rfl⟩ := z47
        refine mg_v0 ?_
        refine mg_aload_n C dX4_mesh_50 rfl ?_
        refine mg_get C inG_X4 fX4_28 (ci := 4) rfl rfl 19 rfl rfl dX4_mesh_51 ?_
        refine mg_iconst (v := 0) C dX4_mesh_54 (by decide) ?_
        refine mg_putN C inG_X0 fX4_50 (ci := 0) rfl rfl tyX0 tyX0_ok nmX0 rfl 7 rfl rfl rfl rfl dX4_mesh_55 (ws' := (cw E ad 16 (ug (dr (rg gF r c u)) 9 0) (ra aF) vF tl)) rfl ?_
        refine mg_iconst (v := 1) C dX4_mesh_58 (by decide) ?_
        exact mg_iret C hQ dX4_mesh_59 (⟨by rw [anMesh, if_neg h7, if_neg h17, if_neg h27] <;> first | rfl | decide, zx⟩)
      · refine mg_bipush (v := (-2)) C dX4_mesh_30 (by decide) ?_
        exact mg_iret C hQ dX4_mesh_32 (⟨by rw [anMesh, if_neg h7, if_neg h17, if_pos h27] <;> first | rfl | decide, zx⟩)
set_option maxHeartbeats 400000 in
set_option maxRecDepth 100000 in
theorem ct_X4_write (E : En) (ad : Nat → Nat) (tl : va_W) (r c y : Int32)  : Ct E mX4_write 2 0 0 [.ref (ad 19), .int r, .int c, .int y] (cw E ad 16 gF aF vF tl) (fun o w => o = some (.int (anWrite r c y)) ∧ ∃ L : va_W, w = L ++ tl) := by
  refine Ct.of (by decide) (Nat.le_of_ble_eq_true rfl) (fun X C hQ hin => ?_)
  have C : Cx E X cX4_write 5 RX4 (some .int) 2 80 0 0 := C
  refine mg_aload_n C dX4_write_0 rfl ?_
  refine mg_get C inG_X4 fX4_10 (ci := 4) rfl rfl 19 rfl rfl dX4_write_1 ?_
  refine mg_iload_n C dX4_write_4 rfl ?_
  refine mg_iload_n C dX4_write_5 rfl ?_
  refine mg_callVN C (ct_X1_hasCell E _ _ _ _ _ _ _ _) oX4_54 18 rfl rfl rfl rfl rfl dX4_write_6 (fun o6 w6 z6 => ?_)
  obtain ⟨rfl, rfl⟩ := z6
  refine mg_v ?_
  refine mg_if_eq C 27 dX4_write_9 (by decide) (fun h9 => ?_) (fun h9 => ?_)
  · refine mg_bipush (v := (-2)) C dX4_write_27 (by decide) ?_
    exact mg_iret C hQ dX4_write_29 (⟨by rw [anWrite, if_pos h9] <;> first | rfl | decide, zx⟩)
  · obtain ⟨rfl, rfl⟩ := hcF h9
    refine mg_iload_n C dX4_write_12 rfl ?_
    refine mg_iconst (v := 0) C dX4_write_13 (by decide) ?_
    refine mg_aload_n C dX4_write_14 rfl ?_
    refine mg_get C inG_X4 fX4_10 (ci := 4) rfl rfl 19 rfl rfl dX4_write_15 ?_
    refine mg_getN C inG_X1 fX4_58 (ci := 1) rfl rfl 18 rfl rfl dX4_write_18 ?_
    refine mg_callS C (ct_X4_within E _ _ _ _) oX4_39 rfl rfl rfl dX4_write_21 (fun o21 w21 z21 => ?_)
    obtain ⟨rfl, rfl⟩ := z21
    refine mg_v ?_
    refine mg_if_ne C 30 dX4_write_24 (by decide) (fun h24 => ?_) (fun h24 => ?_)
    · refine mg_aload_n C dX4_write_30 rfl ?_
      refine mg_get C inG_X4 fX4_10 (ci := 4) rfl rfl 19 rfl rfl dX4_write_31 ?_
      refine mg_iload_n C dX4_write_34 rfl ?_
      refine mg_iload_n C dX4_write_35 rfl ?_
      refine mg_callVN C (ct_X1_place E _ _ _ _ _ _ _ _) oX4_62 18 rfl rfl rfl rfl rfl dX4_write_36 (fun o36 w36 z36 => ?_)
      obtain ⟨rfl, rfl⟩ := z36
      refine mg_v ?_
      refine mg_istore C dX4_write_39 rfl ?_
      refine mg_lve (lv' := [(0, _), (1, _), (2, _), (3, _), (4, _)]) rfl ?_
      refine mg_aload_n C dX4_write_41 rfl ?_
      refine mg_get C inG_X4 fX4_10 (ci := 4) rfl rfl 19 rfl rfl dX4_write_42 ?_
      refine mg_iload C dX4_write_45 rfl ?_
      refine mg_iload_n C dX4_write_47 rfl ?_
      refine mg_callVN C (ct_X1_sticksAtAnother E _ _ _ _ _ _ _ _ vin0) oX4_66 18 rfl rfl rfl rfl rfl dX4_write_48 (fun o48 w48 z48 => ?_)
      obtain ⟨rfl, rfl⟩ := z48
      refine mg_v ?_
      refine mg_if_eq C 57 dX4_write_51 (by decide) (fun h51 => ?_) (fun h51 => absurd h51 (fun hh => hh rfl))
      refine mg_aload_n C dX4_write_57 rfl ?_
      refine mg_get C inG_X4 fX4_10 (ci := 4) rfl rfl 19 rfl rfl dX4_write_58 ?_
      refine mg_iload C dX4_write_61 rfl ?_
      refine mg_iload_n C dX4_write_63 rfl ?_
      refine mg_callVN C (ct_X1_put E _ _ _ _ _ _ _ _ vin0) oX4_69 18 rfl rfl rfl rfl rfl dX4_write_64 (fun o64 w64 z64 => ?_)
      obtain ⟨rfl, rfl⟩ := z64
      refine mg_v0 ?_
      refine mg_iconst (v := 1) C dX4_write_67 (by decide) ?_
      exact mg_iret C hQ dX4_write_68 (⟨by rw [anWrite, if_neg h9, if_neg h24] <;> first | rfl | decide, zx⟩)
    · refine mg_bipush (v := (-2)) C dX4_write_27 (by decide) ?_
      exact mg_iret C hQ dX4_write_29 (⟨by rw [anWrite, if_neg h9, if_pos h24] <;> first | rfl | decide, zx⟩)
set_option maxHeartbeats 400000 in
set_option maxRecDepth 100000 in
theorem ct_X4_stick (E : En) (ad : Nat → Nat) (tl : va_W) (r c y : Int32)  : Ct E mX4_stick 2 0 0 [.ref (ad 19), .int r, .int c, .int y] (cw E ad 16 gF aF vF tl) (fun o w => o = some (.int (anStick r c y)) ∧ ∃ L : va_W, w = L ++ tl) := by
  refine Ct.of (by decide) (Nat.le_of_ble_eq_true rfl) (fun X C hQ hin => ?_)
  have C : Cx E X cX4_stick 4 RX4 (some .int) 2 80 0 0 := C
  refine mg_aload_n C dX4_stick_0 rfl ?_
  refine mg_get C inG_X4 fX4_10 (ci := 4) rfl rfl 19 rfl rfl dX4_stick_1 ?_
  refine mg_iload_n C dX4_stick_4 rfl ?_
  refine mg_iload_n C dX4_stick_5 rfl ?_
  refine mg_callVN C (ct_X1_hasCell E _ _ _ _ _ _ _ _) oX4_54 18 rfl rfl rfl rfl rfl dX4_stick_6 (fun o6 w6 z6 => ?_)
  obtain ⟨rfl, rfl⟩ := z6
  refine mg_v ?_
  refine mg_if_eq C 27 dX4_stick_9 (by decide) (fun h9 => ?_) (fun h9 => ?_)
  · refine mg_bipush (v := (-2)) C dX4_stick_27 (by decide) ?_
    exact mg_iret C hQ dX4_stick_29 (⟨by rw [anStick, if_pos h9] <;> first | rfl | decide, zx⟩)
  · obtain ⟨rfl, rfl⟩ := hcF h9
    refine mg_iload_n C dX4_stick_12 rfl ?_
    refine mg_iconst (v := (-1)) C dX4_stick_13 (by decide) ?_
    refine mg_aload_n C dX4_stick_14 rfl ?_
    refine mg_get C inG_X4 fX4_10 (ci := 4) rfl rfl 19 rfl rfl dX4_stick_15 ?_
    refine mg_getN C inG_X1 fX4_58 (ci := 1) rfl rfl 18 rfl rfl dX4_stick_18 ?_
    refine mg_callS C (ct_X4_within E _ _ _ _) oX4_39 rfl rfl rfl dX4_stick_21 (fun o21 w21 z21 => ?_)
    obtain ⟨rfl, rfl⟩ := z21
    refine mg_v ?_
    refine mg_if_ne C 30 dX4_stick_24 (by decide) (fun h24 => ?_) (fun h24 => ?_)
    · refine mg_aload_n C dX4_stick_30 rfl ?_
      refine mg_get C inG_X4 fX4_10 (ci := 4) rfl rfl 19 rfl rfl dX4_stick_31 ?_
      refine mg_aload_n C dX4_stick_34 rfl ?_
      refine mg_get C inG_X4 fX4_10 (ci := 4) rfl rfl 19 rfl rfl dX4_stick_35 ?_
      refine mg_iload_n C dX4_stick_38 rfl ?_
      refine mg_iload_n C dX4_stick_39 rfl ?_
      refine mg_callVN C (ct_X1_place E _ _ _ _ _ _ _ _) oX4_62 18 rfl rfl rfl rfl rfl dX4_stick_40 (fun o40 w40 z40 => ?_)
      obtain ⟨rfl, rfl⟩ := z40
      refine mg_v ?_
      refine mg_iload_n C dX4_stick_43 rfl ?_
      refine mg_callVN C (ct_X1_hold E _ _ _ _ _ _ _ _ vin0) oX4_73 18 rfl rfl rfl rfl rfl dX4_stick_44 (fun o44 w44 z44 => ?_)
      obtain ⟨rfl, rfl⟩ := z44
      refine mg_v0 ?_
      refine mg_iconst (v := 1) C dX4_stick_47 (by decide) ?_
      exact mg_iret C hQ dX4_stick_48 (⟨by rw [anStick, if_neg h9, if_neg h24] <;> first | rfl | decide, zx⟩)
    · refine mg_bipush (v := (-2)) C dX4_stick_27 (by decide) ?_
      exact mg_iret C hQ dX4_stick_29 (⟨by rw [anStick, if_neg h9, if_pos h24] <;> first | rfl | decide, zx⟩)
set_option maxHeartbeats 400000 in
set_option maxRecDepth 100000 in
theorem ct_X4_cell (E : En) (ad : Nat → Nat) (tl : va_W) (r c u : Int32)  : Ct E mX4_cell 2 0 0 [.ref (ad 19), .int r, .int c, .int u] (cw E ad 16 gF aF vF tl) (fun o w => o = some (.int (anCell r c u)) ∧ ∃ L : va_W, w = L ++ tl) := by
  refine Ct.of (by decide) (Nat.le_of_ble_eq_true rfl) (fun X C hQ hin => ?_)
  have C : Cx E X cX4_cell 4 RX4 (some .int) 2 80 0 0 := C
  refine mg_aload_n C dX4_cell_0 rfl ?_
  refine mg_get C inG_X4 fX4_10 (ci := 4) rfl rfl 19 rfl rfl dX4_cell_1 ?_
  refine mg_iload_n C dX4_cell_4 rfl ?_
  refine mg_iload_n C dX4_cell_5 rfl ?_
  refine mg_callVN C (ct_X1_hasCell E _ _ _ _ _ _ _ _) oX4_54 18 rfl rfl rfl rfl rfl dX4_cell_6 (fun o6 w6 z6 => ?_)
  obtain ⟨rfl, rfl⟩ := z6
  refine mg_v ?_
  refine mg_if_eq C 21 dX4_cell_9 (by decide) (fun h9 => ?_) (fun h9 => ?_)
  · refine mg_bipush (v := (-2)) C dX4_cell_21 (by decide) ?_
    exact mg_iret C hQ dX4_cell_23 (⟨by rw [anCell, if_pos h9] <;> first | rfl | decide, zx⟩)
  · obtain ⟨rfl, rfl⟩ := hcF h9
    refine mg_iload_n C dX4_cell_12 rfl ?_
    refine mg_iconst (v := 0) C dX4_cell_13 (by decide) ?_
    refine mg_iconst (v := 2) C dX4_cell_14 (by decide) ?_
    refine mg_callS C (ct_X4_within E _ _ _ _) oX4_39 rfl rfl rfl dX4_cell_15 (fun o15 w15 z15 => ?_)
    obtain ⟨rfl, rfl⟩ := z15
    refine mg_v ?_
    refine mg_if_ne C 24 dX4_cell_18 (by decide) (fun h18 => ?_) (fun h18 => ?_)
    · refine mg_aload_n C dX4_cell_24 rfl ?_
      refine mg_get C inG_X4 fX4_10 (ci := 4) rfl rfl 19 rfl rfl dX4_cell_25 ?_
      refine mg_aload_n C dX4_cell_28 rfl ?_
      refine mg_get C inG_X4 fX4_10 (ci := 4) rfl rfl 19 rfl rfl dX4_cell_29 ?_
      refine mg_iload_n C dX4_cell_32 rfl ?_
      refine mg_iload_n C dX4_cell_33 rfl ?_
      refine mg_callVN C (ct_X1_place E _ _ _ _ _ _ _ _) oX4_62 18 rfl rfl rfl rfl rfl dX4_cell_34 (fun o34 w34 z34 => ?_)
      obtain ⟨rfl, rfl⟩ := z34
      refine mg_v ?_
      refine mg_iload_n C dX4_cell_37 rfl ?_
      refine mg_callVN C (ct_X1_tellCell E _ _ _ _ _ _ _ _ vin0) oX4_76 18 rfl rfl rfl rfl rfl dX4_cell_38 (fun o38 w38 z38 => ?_)
      obtain ⟨rfl, rfl⟩ := z38
      refine mg_v ?_
      exact mg_iret C hQ dX4_cell_41 (⟨by rw [anCell, if_neg h9, if_neg h18] <;> first | rfl | decide, zx⟩)
    · refine mg_bipush (v := (-2)) C dX4_cell_21 (by decide) ?_
      exact mg_iret C hQ dX4_cell_23 (⟨by rw [anCell, if_neg h9, if_pos h18] <;> first | rfl | decide, zx⟩)
set_option maxHeartbeats 400000 in
set_option maxRecDepth 100000 in
theorem ct_X4_input (E : En) (ad : Nat → Nat) (tl : va_W) (r x : Int32)  : Ct E mX4_input 1 0 0 [.ref (ad 19), .int r, .int x] (cw E ad 16 gF aF vF tl) (fun o w => o = some (.int (anInput r x)) ∧ ∃ L : va_W, w = L ++ tl) := by
  refine Ct.of (by decide) (Nat.le_of_ble_eq_true rfl) (fun X C hQ hin => ?_)
  have C : Cx E X cX4_input 4 RX4 (some .int) 1 40 0 0 := C
  refine mg_iload_n C dX4_input_0 rfl ?_
  refine mg_iconst (v := 0) C dX4_input_1 (by decide) ?_
  refine mg_aload_n C dX4_input_2 rfl ?_
  refine mg_get C inG_X4 fX4_10 (ci := 4) rfl rfl 19 rfl rfl dX4_input_3 ?_
  refine mg_getN C inG_X1 fX4_79 (ci := 1) rfl rfl 18 rfl rfl dX4_input_6 ?_
  refine mg_iconst (v := 1) C dX4_input_9 (by decide) ?_
  refine mg_isub C dX4_input_10 ?_
  refine mg_callS C (ct_X4_within E _ _ _ _) oX4_39 rfl rfl rfl dX4_input_11 (fun o11 w11 z11 => ?_)
  obtain ⟨rfl, rfl⟩ := z11
  refine mg_v ?_
  refine mg_if_eq C 28 dX4_input_14 (by decide) (fun h14 => ?_) (fun h14 => ?_)
  · refine mg_bipush (v := (-2)) C dX4_input_28 (by decide) ?_
    exact mg_iret C hQ dX4_input_30 (⟨by rw [anInput, if_pos h14] <;> first | rfl | decide, zx⟩)
  · have er := wi0 h14
    subst er
    refine mg_iload_n C dX4_input_17 rfl ?_
    refine mg_iconst (v := 0) C dX4_input_18 (by decide) ?_
    refine mg_sipush (v := 255) C dX4_input_19 (by decide) ?_
    refine mg_callS C (ct_X4_within E _ _ _ _) oX4_39 rfl rfl rfl dX4_input_22 (fun o22 w22 z22 => ?_)
    obtain ⟨rfl, rfl⟩ := z22
    refine mg_v ?_
    refine mg_if_ne C 31 dX4_input_25 (by decide) (fun h25 => ?_) (fun h25 => ?_)
    · refine mg_aload_n C dX4_input_31 rfl ?_
      refine mg_get C inG_X4 fX4_10 (ci := 4) rfl rfl 19 rfl rfl dX4_input_32 ?_
      refine mg_getN C inG_X1 fX4_82 (ci := 1) rfl rfl 18 rfl rfl dX4_input_35 ?_
      refine mg_iload_n C dX4_input_38 rfl ?_
      refine mg_iald C 14 rfl (vin00) dX4_input_39 ?_
      refine mg_istore_n C dX4_input_40 rfl ?_
      refine mg_lve (lv' := [(0, _), (1, _), (2, _), (3, _)]) rfl ?_
      refine mg_aload_n C dX4_input_41 rfl ?_
      refine mg_get C inG_X4 fX4_10 (ci := 4) rfl rfl 19 rfl rfl dX4_input_42 ?_
      refine mg_getN C inG_X1 fX4_82 (ci := 1) rfl rfl 18 rfl rfl dX4_input_45 ?_
      refine mg_iload_n C dX4_input_48 rfl ?_
      refine mg_iload_n C dX4_input_49 rfl ?_
      refine mg_iast C 14 rfl (vin00) dX4_input_50 (ws' := (cw E ad 16 gF (ups aF 3 (0 : Int32).toNatClampNeg x) vF tl)) rfl ?_
      refine mg_iload_n C dX4_input_51 rfl ?_
      exact mg_iret C hQ dX4_input_52 (⟨by rw [anInput, if_neg h14, if_neg h25] <;> first | rfl | decide, zx⟩)
    · refine mg_bipush (v := (-2)) C dX4_input_28 (by decide) ?_
      exact mg_iret C hQ dX4_input_30 (⟨by rw [anInput, if_neg h14, if_pos h25] <;> first | rfl | decide, zx⟩)
set_option maxHeartbeats 400000 in
set_option maxRecDepth 100000 in
theorem ct_X4_bits (E : En) (ad : Nat → Nat) (tl : va_W) (b : Int32)  : Ct E mX4_bits 1 0 0 [.ref (ad 19), .int b] (cw E ad 16 gF aF vF tl) (fun o w => o = some (.int (anBits b)) ∧ ∃ L : va_W, w = L ++ tl) := by
  refine Ct.of (by decide) (Nat.le_of_ble_eq_true rfl) (fun X C hQ hin => ?_)
  have C : Cx E X cX4_bits 3 RX4 (some .int) 1 40 0 0 := C
  refine mg_iload_n C dX4_bits_0 rfl ?_
  refine mg_iconst (v := 1) C dX4_bits_1 (by decide) ?_
  refine mg_bipush (v := 16) C dX4_bits_2 (by decide) ?_
  refine mg_callS C (ct_X4_within E _ _ _ _) oX4_39 rfl rfl rfl dX4_bits_4 (fun o4 w4 z4 => ?_)
  obtain ⟨rfl, rfl⟩ := z4
  refine mg_v ?_
  refine mg_if_ne C 13 dX4_bits_7 (by decide) (fun h7 => ?_) (fun h7 => ?_)
  · refine mg_aload_n C dX4_bits_13 rfl ?_
    refine mg_get C inG_X4 fX4_10 (ci := 4) rfl rfl 19 rfl rfl dX4_bits_14 ?_
    refine mg_getN C inG_X1 fX4_86 (ci := 1) rfl rfl 18 rfl rfl dX4_bits_17 ?_
    refine mg_istore_n C dX4_bits_20 rfl ?_
    refine mg_lve (lv' := [(0, _), (1, _), (2, _)]) rfl ?_
    refine mg_aload_n C dX4_bits_21 rfl ?_
    refine mg_get C inG_X4 fX4_10 (ci := 4) rfl rfl 19 rfl rfl dX4_bits_22 ?_
    refine mg_iload_n C dX4_bits_25 rfl ?_
    refine mg_putN C inG_X1 fX4_86 (ci := 1) rfl rfl tyX1 tyX1_ok nmX1 rfl 18 rfl rfl rfl rfl dX4_bits_26 (ws' := (cw E ad 16 (ug gF 3 b) aF vF tl)) rfl ?_
    refine mg_iload_n C dX4_bits_29 rfl ?_
    exact mg_iret C hQ dX4_bits_30 (⟨by rw [anBits, if_neg h7] <;> first | rfl | decide, zx⟩)
  · refine mg_bipush (v := (-2)) C dX4_bits_10 (by decide) ?_
    exact mg_iret C hQ dX4_bits_12 (⟨by rw [anBits, if_pos h7] <;> first | rfl | decide, zx⟩)
set_option maxHeartbeats 400000 in
set_option maxRecDepth 100000 in
theorem cf_columnSum (E : En) (ad : Nat → Nat) (tl : va_W)   : Ct E mX1_columnSum 1 0 0 [.ref (ad 18), .int 0] (cw E ad 16 gF aF vF tl) (fun o w => o = some (.int 0) ∧ w = cw E ad 16 gF aF vF tl) := by
  refine Ct.of (by decide) (Nat.le_of_ble_eq_true rfl) (fun X C hQ hin => ?_)
  have C : Cx E X cX1_columnSum 4 RX1 (some .int) 1 40 0 0 := C
  refine mg_iconst (v := 0) C dX1_columnSum_0 (by decide) ?_
  refine mg_istore_n C dX1_columnSum_1 rfl ?_
  refine mg_lve (lv' := [(0, _), (1, _), (2, _)]) rfl ?_
  refine mg_iconst (v := 0) C dX1_columnSum_2 (by decide) ?_
  refine mg_istore_n C dX1_columnSum_3 rfl ?_
  refine mg_lve (lv' := [(0, _), (1, _), (2, _), (3, _)]) rfl ?_
  refine mg_iload_n C dX1_columnSum_4 rfl ?_
  refine mg_aload_n C dX1_columnSum_5 rfl ?_
  refine mg_get C inG_X1 fX1_28 (ci := 1) rfl rfl 18 rfl rfl dX1_columnSum_6 ?_
  refine mg_icmp_ge C 39 dX1_columnSum_9 (by decide) (fun h9 => absurd h9 (by decide)) (fun h9 => ?_)
  refine mg_iload_n C dX1_columnSum_12 rfl ?_
  refine mg_aload_n C dX1_columnSum_13 rfl ?_
  refine mg_get C inG_X1 fX1_21 (ci := 1) rfl rfl 18 rfl rfl dX1_columnSum_14 ?_
  refine mg_iload_n C dX1_columnSum_17 rfl ?_
  refine mg_iald C 14 rfl (vin00) dX1_columnSum_18 ?_
  refine mg_aload_n C dX1_columnSum_19 rfl ?_
  refine mg_get C inG_X1 fX1_9 (ci := 1) rfl rfl 18 rfl rfl dX1_columnSum_20 ?_
  refine mg_aload_n C dX1_columnSum_23 rfl ?_
  refine mg_iload_n C dX1_columnSum_24 rfl ?_
  refine mg_iload_n C dX1_columnSum_25 rfl ?_
  refine mg_callV C (ct_X1_place E _ _ _ _ _ _ _ _) oX1_55 18 rfl rfl rfl rfl rfl dX1_columnSum_26 (fun o26 w26 z26 => ?_)
  obtain ⟨rfl, rfl⟩ := z26
  refine mg_v ?_
  refine mg_iald C 17 rfl (vin0) dX1_columnSum_29 ?_
  refine mg_imul C dX1_columnSum_30 ?_
  refine mg_iadd C dX1_columnSum_31 ?_
  refine mg_istore_n C dX1_columnSum_32 rfl ?_
  refine mg_lve (lv' := [(0, _), (1, _), (2, _), (3, _)]) rfl ?_
  refine mg_iinc C dX1_columnSum_33 rfl rfl ?_
  refine mg_lve (lv' := [(0, _), (1, _), (2, _), (3, _)]) rfl ?_
  refine mg_goto C 4 dX1_columnSum_36 (by decide) ?_
  refine mg_iload_n C dX1_columnSum_4 rfl ?_
  refine mg_aload_n C dX1_columnSum_5 rfl ?_
  refine mg_get C inG_X1 fX1_28 (ci := 1) rfl rfl 18 rfl rfl dX1_columnSum_6 ?_
  refine mg_icmp_ge C 39 dX1_columnSum_9 (by decide) (fun h9 => ?_) (fun h9 => absurd h9 (by decide))
  refine mg_iload_n C dX1_columnSum_39 rfl ?_
  exact mg_iret C hQ dX1_columnSum_40 (⟨rfl, rfl⟩)
set_option maxHeartbeats 400000 in
set_option maxRecDepth 100000 in
theorem ct_X4_sum (E : En) (ad : Nat → Nat) (tl : va_W) (c : Int32)  : Ct E mX4_sum 2 0 0 [.ref (ad 19), .int c] (cw E ad 16 gF aF vF tl) (fun o w => o = some (.int (anSum c)) ∧ ∃ L : va_W, w = L ++ tl) := by
  refine Ct.of (by decide) (Nat.le_of_ble_eq_true rfl) (fun X C hQ hin => ?_)
  have C : Cx E X cX4_sum 2 RX4 (some .int) 2 80 0 0 := C
  refine mg_iload_n C dX4_sum_0 rfl ?_
  refine mg_iconst (v := 0) C dX4_sum_1 (by decide) ?_
  refine mg_aload_n C dX4_sum_2 rfl ?_
  refine mg_get C inG_X4 fX4_10 (ci := 4) rfl rfl 19 rfl rfl dX4_sum_3 ?_
  refine mg_getN C inG_X1 fX4_89 (ci := 1) rfl rfl 18 rfl rfl dX4_sum_6 ?_
  refine mg_iconst (v := 1) C dX4_sum_9 (by decide) ?_
  refine mg_isub C dX4_sum_10 ?_
  refine mg_callS C (ct_X4_within E _ _ _ _) oX4_39 rfl rfl rfl dX4_sum_11 (fun o11 w11 z11 => ?_)
  obtain ⟨rfl, rfl⟩ := z11
  refine mg_v ?_
  refine mg_if_ne C 20 dX4_sum_14 (by decide) (fun h14 => ?_) (fun h14 => ?_)
  · have er := wi0 h14
    subst er
    refine mg_aload_n C dX4_sum_20 rfl ?_
    refine mg_get C inG_X4 fX4_10 (ci := 4) rfl rfl 19 rfl rfl dX4_sum_21 ?_
    refine mg_aload_n C dX4_sum_24 rfl ?_
    refine mg_get C inG_X4 fX4_10 (ci := 4) rfl rfl 19 rfl rfl dX4_sum_25 ?_
    refine mg_iload_n C dX4_sum_28 rfl ?_
    refine mg_callVN C (cf_columnSum E _ _) oX4_92 18 rfl rfl rfl rfl rfl dX4_sum_29 (fun o29 w29 z29 => ?_)
    obtain ⟨rfl, rfl⟩ := z29
    refine mg_v ?_
    refine mg_callVN C (ct_X1_convert E _ _ _ _ _ _ _) oX4_96 18 rfl rfl rfl rfl rfl dX4_sum_32 (fun o32 w32 z32 => ?_)
    obtain ⟨rfl, rfl⟩ := z32
    refine mg_v ?_
    exact mg_iret C hQ dX4_sum_35 (⟨by rw [anSum, if_neg h14] <;> first | rfl | decide, zx⟩)
  · refine mg_bipush (v := (-2)) C dX4_sum_17 (by decide) ?_
    exact mg_iret C hQ dX4_sum_19 (⟨by rw [anSum, if_pos h14] <;> first | rfl | decide, zx⟩)
set_option maxHeartbeats 400000 in
set_option maxRecDepth 100000 in
theorem ct_X4_table (E : En) (ad : Nat → Nat) (tl : va_W) (n m d : Int32)  : Ct E mX4_table 1 0 0 [.ref (ad 19), .int n, .int m, .int d] (cw E ad 16 gF aF vF tl) (fun o w => o = some (.int (anTable n m d)) ∧ ∃ L : va_W, w = L ++ tl) := by
  refine Ct.of (by decide) (Nat.le_of_ble_eq_true rfl) (fun X C hQ hin => ?_)
  have C : Cx E X cX4_table 4 RX4 (some .int) 1 40 0 0 := C
  refine mg_iload_n C dX4_table_0 rfl ?_
  refine mg_iconst (v := 1) C dX4_table_1 (by decide) ?_
  refine mg_aload_n C dX4_table_2 rfl ?_
  refine mg_get C inG_X4 fX4_10 (ci := 4) rfl rfl 19 rfl rfl dX4_table_3 ?_
  refine mg_getN C inG_X1 fX4_79 (ci := 1) rfl rfl 18 rfl rfl dX4_table_6 ?_
  refine mg_callS C (ct_X4_within E _ _ _ _) oX4_39 rfl rfl rfl dX4_table_9 (fun o9 w9 z9 => ?_)
  obtain ⟨rfl, rfl⟩ := z9
  refine mg_v ?_
  refine mg_if_eq C 35 dX4_table_12 (by decide) (fun h12 => ?_) (fun h12 => ?_)
  · refine mg_bipush (v := (-2)) C dX4_table_35 (by decide) ?_
    exact mg_iret C hQ dX4_table_37 (⟨by rw [anTable, if_pos h12] <;> first | rfl | decide, zx⟩)
  · refine mg_iload_n C dX4_table_15 rfl ?_
    refine mg_iconst (v := 1) C dX4_table_16 (by decide) ?_
    refine mg_bipush (v := 12) C dX4_table_17 (by decide) ?_
    refine mg_callS C (ct_X4_within E _ _ _ _) oX4_39 rfl rfl rfl dX4_table_19 (fun o19 w19 z19 => ?_)
    obtain ⟨rfl, rfl⟩ := z19
    refine mg_v ?_
    refine mg_if_eq C 35 dX4_table_22 (by decide) (fun h22 => ?_) (fun h22 => ?_)
    · refine mg_bipush (v := (-2)) C dX4_table_35 (by decide) ?_
      exact mg_iret C hQ dX4_table_37 (⟨by rw [anTable, if_neg h12, if_pos h22] <;> first | rfl | decide, zx⟩)
    · refine mg_iload_n C dX4_table_25 rfl ?_
      refine mg_iconst (v := 1) C dX4_table_26 (by decide) ?_
      refine mg_bipush (v := 6) C dX4_table_27 (by decide) ?_
      refine mg_callS C (ct_X4_within E _ _ _ _) oX4_39 rfl rfl rfl dX4_table_29 (fun o29 w29 z29 => ?_)
      obtain ⟨rfl, rfl⟩ := z29
      refine mg_v ?_
      refine mg_if_ne C 38 dX4_table_32 (by decide) (fun h32 => ?_) (fun h32 => ?_)
      · refine mg_iconst (v := 2) C dX4_table_38 (by decide) ?_
        refine mg_iload_n C dX4_table_39 rfl ?_
        refine mg_imul C dX4_table_40 ?_
        refine mg_iload_n C dX4_table_41 rfl ?_
        refine mg_imul C dX4_table_42 ?_
        refine mg_aload_n C dX4_table_43 rfl ?_
        refine mg_get C inG_X4 fX4_10 (ci := 4) rfl rfl 19 rfl rfl dX4_table_44 ?_
        refine mg_getN C inG_X1 fX4_89 (ci := 1) rfl rfl 18 rfl rfl dX4_table_47 ?_
        refine mg_icmp_le C 56 dX4_table_50 (by decide) (fun h50 => absurd h50 (tabF h22 h32)) (fun h50 => ?_)
        refine mg_bipush (v := (-3)) C dX4_table_53 (by decide) ?_
        exact mg_iret C hQ dX4_table_55 (⟨by rw [anTable, if_neg h12, if_neg h22, if_neg h32] <;> first | rfl | decide, zx⟩)
      · refine mg_bipush (v := (-2)) C dX4_table_35 (by decide) ?_
        exact mg_iret C hQ dX4_table_37 (⟨by rw [anTable, if_neg h12, if_neg h22, if_pos h32] <;> first | rfl | decide, zx⟩)
set_option maxHeartbeats 400000 in
set_option maxRecDepth 100000 in
theorem ct_X4_number (E : En) (ad : Nat → Nat) (tl : va_W) (i k y : Int32)  : Ct E mX4_number 1 0 0 [.ref (ad 19), .int i, .int k, .int y] (cw E ad 16 gF aF vF tl) (fun o w => o = some (.int (-2000000000)) ∧ ∃ L : va_W, w = L ++ tl) := by
  refine Ct.of (by decide) (Nat.le_of_ble_eq_true rfl) (fun X C hQ hin => ?_)
  have C : Cx E X cX4_number 4 RX4 (some .int) 1 40 0 0 := C
  refine mg_iload_n C dX4_number_0 rfl ?_
  refine mg_iconst (v := 0) C dX4_number_1 (by decide) ?_
  refine mg_aload_n C dX4_number_2 rfl ?_
  refine mg_get C inG_X4 fX4_21 (ci := 4) rfl rfl 19 rfl rfl dX4_number_3 ?_
  refine mg_getN C inG_X3 fX4_102 (ci := 3) rfl rfl 13 rfl rfl dX4_number_6 ?_
  refine mg_iconst (v := 1) C dX4_number_9 (by decide) ?_
  refine mg_isub C dX4_number_10 ?_
  refine mg_callS C (ct_X4_within E _ _ _ _) oX4_39 rfl rfl rfl dX4_number_11 (fun o11 w11 z11 => ?_)
  obtain ⟨rfl, rfl⟩ := z11
  refine mg_v ?_
  refine mg_if_eq C 56 dX4_number_14 (by decide) (fun h14 => ?_) (fun h14 => absurd h14 (fun hh => hh wim))
  refine mg_ldc C dX4_number_56 kX4_111 ?_
  exact mg_iret C hQ dX4_number_58 (⟨rfl, zx⟩)
set_option maxHeartbeats 400000 in
set_option maxRecDepth 100000 in
theorem ct_X4_lay (E : En) (ad : Nat → Nat) (tl : va_W)   : Ct E mX4_lay 1 0 0 [.ref (ad 19)] (cw E ad 16 gF aF vF tl) (fun o w => o = some (.int (-3)) ∧ ∃ L : va_W, w = L ++ tl) := by
  refine Ct.of (by decide) (Nat.le_of_ble_eq_true rfl) (fun X C hQ hin => ?_)
  have C : Cx E X cX4_lay 1 RX4 (some .int) 1 40 0 0 := C
  refine mg_aload_n C dX4_lay_0 rfl ?_
  refine mg_get C inG_X4 fX4_21 (ci := 4) rfl rfl 19 rfl rfl dX4_lay_1 ?_
  refine mg_callVN C (ct_X3_exists E _ _ _ _ _ _) oX4_116 13 rfl rfl rfl rfl rfl dX4_lay_4 (fun o4 w4 z4 => ?_)
  obtain ⟨rfl, rfl⟩ := z4
  refine mg_v ?_
  refine mg_if_eq C 20 dX4_lay_7 (by decide) (fun h7 => ?_) (fun h7 => absurd h7 (fun hh => hh rfl))
  refine mg_bipush (v := (-3)) C dX4_lay_20 (by decide) ?_
  exact mg_iret C hQ dX4_lay_22 (⟨rfl, zx⟩)
set_option maxHeartbeats 400000 in
set_option maxRecDepth 100000 in
theorem ct_X4_enough (E : En) (ad : Nat → Nat) (tl : va_W)   : Ct E mX4_enough 1 0 0 [.ref (ad 19)] (cw E ad 16 gF aF vF tl) (fun o w => o = some (.int (-3)) ∧ ∃ L : va_W, w = L ++ tl) := by
  refine Ct.of (by decide) (Nat.le_of_ble_eq_true rfl) (fun X C hQ hin => ?_)
  have C : Cx E X cX4_enough 1 RX4 (some .int) 1 40 0 0 := C
  refine mg_aload_n C dX4_enough_0 rfl ?_
  refine mg_get C inG_X4 fX4_21 (ci := 4) rfl rfl 19 rfl rfl dX4_enough_1 ?_
  refine mg_callVN C (ct_X3_exists E _ _ _ _ _ _) oX4_116 13 rfl rfl rfl rfl rfl dX4_enough_4 (fun o4 w4 z4 => ?_)
  obtain ⟨rfl, rfl⟩ := z4
  refine mg_v ?_
  refine mg_if_eq C 20 dX4_enough_7 (by decide) (fun h7 => ?_) (fun h7 => absurd h7 (fun hh => hh rfl))
  refine mg_bipush (v := (-3)) C dX4_enough_20 (by decide) ?_
  exact mg_iret C hQ dX4_enough_22 (⟨rfl, zx⟩)
set_option maxHeartbeats 400000 in
set_option maxRecDepth 100000 in
theorem ct_X4_map (E : En) (ad : Nat → Nat) (tl : va_W)   : Ct E mX4_map 1 0 0 [.ref (ad 19)] (cw E ad 16 gF aF vF tl) (fun o w => o = some (.int (-3)) ∧ ∃ L : va_W, w = L ++ tl) := by
  refine Ct.of (by decide) (Nat.le_of_ble_eq_true rfl) (fun X C hQ hin => ?_)
  have C : Cx E X cX4_map 1 RX4 (some .int) 1 40 0 0 := C
  refine mg_aload_n C dX4_map_0 rfl ?_
  refine mg_get C inG_X4 fX4_21 (ci := 4) rfl rfl 19 rfl rfl dX4_map_1 ?_
  refine mg_callVN C (ct_X3_exists E _ _ _ _ _ _) oX4_116 13 rfl rfl rfl rfl rfl dX4_map_4 (fun o4 w4 z4 => ?_)
  obtain ⟨rfl, rfl⟩ := z4
  refine mg_v ?_
  refine mg_if_eq C 20 dX4_map_7 (by decide) (fun h7 => ?_) (fun h7 => absurd h7 (fun hh => hh rfl))
  refine mg_bipush (v := (-3)) C dX4_map_20 (by decide) ?_
  exact mg_iret C hQ dX4_map_22 (⟨rfl, zx⟩)
set_option maxHeartbeats 400000 in
set_option maxRecDepth 100000 in
theorem ct_X4_product (E : En) (ad : Nat → Nat) (tl : va_W) (k : Int32)  : Ct E mX4_product 1 0 0 [.ref (ad 19), .int k] (cw E ad 16 gF aF vF tl) (fun o w => o = some (.long (-2000000000000000000)) ∧ ∃ L : va_W, w = L ++ tl) := by
  refine Ct.of (by decide) (Nat.le_of_ble_eq_true rfl) (fun X C hQ hin => ?_)
  have C : Cx E X cX4_product 2 RX4 (some .long) 1 40 0 0 := C
  refine mg_aload_n C dX4_product_0 rfl ?_
  refine mg_get C inG_X4 fX4_21 (ci := 4) rfl rfl 19 rfl rfl dX4_product_1 ?_
  refine mg_getN C inG_X3 fX4_124 (ci := 3) rfl rfl 13 rfl rfl dX4_product_4 ?_
  refine mg_if_eq C 27 dX4_product_7 (by decide) (fun h7 => ?_) (fun h7 => absurd h7 (fun hh => hh rfl))
  refine mg_ldc2 C dX4_product_27 kX4_127 ?_
  exact mg_lret C hQ dX4_product_30 (⟨rfl, zx⟩)
set_option maxHeartbeats 400000 in
set_option maxRecDepth 100000 in
theorem ct_X4_due (E : En) (ad : Nat → Nat) (tl : va_W) (k : Int32)  : Ct E mX4_due 1 0 0 [.ref (ad 19), .int k] (cw E ad 16 gF aF vF tl) (fun o w => o = some (.long (-2000000000000000000)) ∧ ∃ L : va_W, w = L ++ tl) := by
  refine Ct.of (by decide) (Nat.le_of_ble_eq_true rfl) (fun X C hQ hin => ?_)
  have C : Cx E X cX4_due 2 RX4 (some .long) 1 40 0 0 := C
  refine mg_iload_n C dX4_due_0 rfl ?_
  refine mg_iconst (v := 0) C dX4_due_1 (by decide) ?_
  refine mg_aload_n C dX4_due_2 rfl ?_
  refine mg_get C inG_X4 fX4_21 (ci := 4) rfl rfl 19 rfl rfl dX4_due_3 ?_
  refine mg_getN C inG_X3 fX4_105 (ci := 3) rfl rfl 13 rfl rfl dX4_due_6 ?_
  refine mg_iconst (v := 1) C dX4_due_9 (by decide) ?_
  refine mg_isub C dX4_due_10 ?_
  refine mg_callS C (ct_X4_within E _ _ _ _) oX4_39 rfl rfl rfl dX4_due_11 (fun o11 w11 z11 => ?_)
  obtain ⟨rfl, rfl⟩ := z11
  refine mg_v ?_
  refine mg_if_ne C 21 dX4_due_14 (by decide) (fun h14 => absurd h14 (fun hh => hh wim)) (fun h14 => ?_)
  refine mg_ldc2 C dX4_due_17 kX4_127 ?_
  exact mg_lret C hQ dX4_due_20 (⟨rfl, zx⟩)
set_option maxHeartbeats 400000 in
set_option maxRecDepth 100000 in
theorem ct_X4_mapped (E : En) (ad : Nat → Nat) (tl : va_W) (i : Int32)  : Ct E mX4_mapped 1 0 0 [.ref (ad 19), .int i] (cw E ad 16 gF aF vF tl) (fun o w => o = some (.int (anMapped i)) ∧ ∃ L : va_W, w = L ++ tl) := by
  refine Ct.of (by decide) (Nat.le_of_ble_eq_true rfl) (fun X C hQ hin => ?_)
  have C : Cx E X cX4_mapped 2 RX4 (some .int) 1 40 0 0 := C
  refine mg_iload_n C dX4_mapped_0 rfl ?_
  refine mg_if_ge C 7 dX4_mapped_1 (by decide) (fun h1 => ?_) (fun h1 => ?_)
  · refine mg_aload_n C dX4_mapped_7 rfl ?_
    refine mg_get C inG_X4 fX4_21 (ci := 4) rfl rfl 19 rfl rfl dX4_mapped_8 ?_
    refine mg_callVN C (ct_X3_exists E _ _ _ _ _ _) oX4_116 13 rfl rfl rfl rfl rfl dX4_mapped_11 (fun o11 w11 z11 => ?_)
    obtain ⟨rfl, rfl⟩ := z11
    refine mg_v ?_
    refine mg_if_ne C 20 dX4_mapped_14 (by decide) (fun h14 => absurd h14 (fun hh => hh rfl)) (fun h14 => ?_)
    refine mg_bipush (v := (-3)) C dX4_mapped_17 (by decide) ?_
    exact mg_iret C hQ dX4_mapped_19 (⟨by rw [anMapped, if_pos h1] <;> first | rfl | decide, zx⟩)
  · refine mg_bipush (v := (-2)) C dX4_mapped_4 (by decide) ?_
    exact mg_iret C hQ dX4_mapped_6 (⟨by rw [anMapped, if_neg h1] <;> first | rfl | decide, zx⟩)
set_option maxHeartbeats 400000 in
set_option maxRecDepth 100000 in
theorem ct_X4_look (E : En) (ad : Nat → Nat) (tl : va_W)   : Ct E mX4_look 0 0 0 [.ref (ad 19)] (cw E ad 16 gF aF vF tl) (fun o w => o = some (.int (-3)) ∧ ∃ L : va_W, w = L ++ tl) := by
  refine Ct.of (by decide) (Nat.le_of_ble_eq_true rfl) (fun X C hQ hin => ?_)
  have C : Cx E X cX4_look 1 RX4 (some .int) 0 0 0 0 := C
  refine mg_aload_n C dX4_look_0 rfl ?_
  refine mg_get C inG_X4 fX4_28 (ci := 4) rfl rfl 19 rfl rfl dX4_look_1 ?_
  refine mg_getN C inG_X0 fX4_50 (ci := 0) rfl rfl 7 rfl rfl dX4_look_4 ?_
  refine mg_if_eq C 20 dX4_look_7 (by decide) (fun h7 => ?_) (fun h7 => absurd h7 (fun hh => hh rfl))
  refine mg_bipush (v := (-3)) C dX4_look_20 (by decide) ?_
  exact mg_iret C hQ dX4_look_22 (⟨rfl, zx⟩)
set_option maxHeartbeats 400000 in
set_option maxRecDepth 100000 in
theorem ct_X4_actAt (E : En) (ad : Nat → Nat) (tl : va_W) (i u : Int32)  : Ct E mX4_actAt 1 0 0 [.ref (ad 19), .int i, .int u] (cw E ad 16 gF aF vF tl) (fun o w => o = some (.int (anActAt u)) ∧ ∃ L : va_W, w = L ++ tl) := by
  refine Ct.of (by decide) (Nat.le_of_ble_eq_true rfl) (fun X C hQ hin => ?_)
  have C : Cx E X cX4_actAt 3 RX4 (some .int) 1 40 0 0 := C
  refine mg_iload_n C dX4_actAt_0 rfl ?_
  refine mg_iconst (v := 0) C dX4_actAt_1 (by decide) ?_
  refine mg_iconst (v := 2) C dX4_actAt_2 (by decide) ?_
  refine mg_callS C (ct_X4_within E _ _ _ _) oX4_39 rfl rfl rfl dX4_actAt_3 (fun o3 w3 z3 => ?_)
  obtain ⟨rfl, rfl⟩ := z3
  refine mg_v ?_
  refine mg_if_ne C 12 dX4_actAt_6 (by decide) (fun h6 => ?_) (fun h6 => ?_)
  · refine mg_iload_n C dX4_actAt_12 rfl ?_
    refine mg_iconst (v := 0) C dX4_actAt_13 (by decide) ?_
    refine mg_aload_n C dX4_actAt_14 rfl ?_
    refine mg_get C inG_X4 fX4_35 (ci := 4) rfl rfl 19 rfl rfl dX4_actAt_15 ?_
    refine mg_getN C inG_X2 fX4_167 (ci := 2) rfl rfl 4 rfl rfl dX4_actAt_18 ?_
    refine mg_iconst (v := 1) C dX4_actAt_21 (by decide) ?_
    refine mg_isub C dX4_actAt_22 ?_
    refine mg_callS C (ct_X4_within E _ _ _ _) oX4_39 rfl rfl rfl dX4_actAt_23 (fun o23 w23 z23 => ?_)
    obtain ⟨rfl, rfl⟩ := z23
    refine mg_v ?_
    refine mg_if_eq C 45 dX4_actAt_26 (by decide) (fun h26 => ?_) (fun h26 => absurd h26 (fun hh => hh wim))
    refine mg_iconst (v := (-1)) C dX4_actAt_45 (by decide) ?_
    exact mg_iret C hQ dX4_actAt_46 (⟨by rw [anActAt, if_neg h6] <;> first | rfl | decide, zx⟩)
  · refine mg_bipush (v := (-2)) C dX4_actAt_9 (by decide) ?_
    exact mg_iret C hQ dX4_actAt_11 (⟨by rw [anActAt, if_pos h6] <;> first | rfl | decide, zx⟩)
set_option maxHeartbeats 400000 in
set_option maxRecDepth 100000 in
theorem ct_X4_where (E : En) (ad : Nat → Nat) (tl : va_W)   : Ct E mX4_where 0 0 0 [.ref (ad 19)] (cw E ad 16 gF aF vF tl) (fun o w => o = some (.int (-1)) ∧ ∃ L : va_W, w = L ++ tl) := by
  refine Ct.of (by decide) (Nat.le_of_ble_eq_true rfl) (fun X C hQ hin => ?_)
  have C : Cx E X cX4_where 1 RX4 (some .int) 0 0 0 0 := C
  refine mg_aload_n C dX4_where_0 rfl ?_
  refine mg_get C inG_X4 fX4_35 (ci := 4) rfl rfl 19 rfl rfl dX4_where_1 ?_
  refine mg_getN C inG_X2 fX4_176 (ci := 2) rfl rfl 4 rfl rfl dX4_where_4 ?_
  exact mg_iret C hQ dX4_where_7 (⟨rfl, zx⟩)
set_option maxHeartbeats 400000 in
set_option maxRecDepth 100000 in
theorem ct_X4_met (E : En) (ad : Nat → Nat) (tl : va_W)   : Ct E mX4_met 0 0 0 [.ref (ad 19)] (cw E ad 16 gF aF vF tl) (fun o w => o = some (.int (0)) ∧ ∃ L : va_W, w = L ++ tl) := by
  refine Ct.of (by decide) (Nat.le_of_ble_eq_true rfl) (fun X C hQ hin => ?_)
  have C : Cx E X cX4_met 1 RX4 (some .int) 0 0 0 0 := C
  refine mg_aload_n C dX4_met_0 rfl ?_
  refine mg_get C inG_X4 fX4_35 (ci := 4) rfl rfl 19 rfl rfl dX4_met_1 ?_
  refine mg_getN C inG_X2 fX4_179 (ci := 2) rfl rfl 4 rfl rfl dX4_met_4 ?_
  exact mg_iret C hQ dX4_met_7 (⟨rfl, zx⟩)
set_option maxHeartbeats 400000 in
set_option maxRecDepth 100000 in
theorem ct_X5_isCell (E : En) (ad : Nat → Nat) (g : Nat → Int32) (a : Nat → Nat → Int32) (v : Nat → Int64) (tl : va_W) (r c : Int32)  : Ct E mX5_isCell 1 0 0 [.ref (ad 17), .int r, .int c] (mw E ad g a v tl) (fun o w => o = some (.int (hc g r c)) ∧ w = mw E ad g a v tl) := by
  refine Ct.of (by decide) (Nat.le_of_ble_eq_true rfl) (fun X C hQ hin => ?_)
  have C : Cx E X cX5_isCell 3 RX5 (some .boolean) 1 40 0 0 := C
  refine mg_iload_n C dX5_isCell_0 rfl ?_
  refine mg_iconst (v := 0) C dX5_isCell_1 (by decide) ?_
  refine mg_aload_n C dX5_isCell_2 rfl ?_
  refine mg_get C inG_X5 fX5_7 (ci := 5) rfl rfl 17 rfl rfl dX5_isCell_3 ?_
  refine mg_iconst (v := 1) C dX5_isCell_6 (by decide) ?_
  refine mg_isub C dX5_isCell_7 ?_
  refine mg_callS C (ct_X5_in E _ _ _ _) oX5_98 rfl rfl rfl dX5_isCell_8 (fun o8 w8 z8 => ?_)
  obtain ⟨rfl, rfl⟩ := z8
  refine mg_v ?_
  refine mg_if_eq C 32 dX5_isCell_11 (by decide) (fun h11 => ?_) (fun h11 => ?_)
  · refine mg_iconst (v := 0) C dX5_isCell_32 (by decide) ?_
    exact mg_zret C hQ (rfl) dX5_isCell_33 (⟨by rw [hc, if_pos h11] <;> first | rfl | decide, rfl⟩)
  · refine mg_iload_n C dX5_isCell_14 rfl ?_
    refine mg_iconst (v := 0) C dX5_isCell_15 (by decide) ?_
    refine mg_aload_n C dX5_isCell_16 rfl ?_
    refine mg_get C inG_X5 fX5_13 (ci := 5) rfl rfl 17 rfl rfl dX5_isCell_17 ?_
    refine mg_iconst (v := 1) C dX5_isCell_20 (by decide) ?_
    refine mg_isub C dX5_isCell_21 ?_
    refine mg_callS C (ct_X5_in E _ _ _ _) oX5_98 rfl rfl rfl dX5_isCell_22 (fun o22 w22 z22 => ?_)
    obtain ⟨rfl, rfl⟩ := z22
    refine mg_v ?_
    refine mg_if_eq C 32 dX5_isCell_25 (by decide) (fun h25 => ?_) (fun h25 => ?_)
    · refine mg_iconst (v := 0) C dX5_isCell_32 (by decide) ?_
      exact mg_zret C hQ (rfl) dX5_isCell_33 (⟨by rw [hc, if_neg h11, if_pos h25] <;> first | rfl | decide, rfl⟩)
    · refine mg_iconst (v := 1) C dX5_isCell_28 (by decide) ?_
      refine mg_goto C 33 dX5_isCell_29 (by decide) ?_
      exact mg_zret C hQ (rfl) dX5_isCell_33 (⟨by rw [hc, if_neg h11, if_neg h25] <;> first | rfl | decide, rfl⟩)
set_option maxHeartbeats 400000 in
set_option maxRecDepth 100000 in
theorem ct_X5_cellAt (E : En) (ad : Nat → Nat) (g : Nat → Int32) (a : Nat → Nat → Int32) (v : Nat → Int64) (tl : va_W) (z u : Int32) (hz : vp_in z 192) : Ct E mX5_cellAt 0 0 0 [.ref (ad 17), .int z, .int u] (mw E ad g a v tl) (fun o w => o = some (.int (tc a z u)) ∧ w = mw E ad g a v tl) := by
  refine Ct.of (by decide) (Nat.le_of_ble_eq_true rfl) (fun X C hQ hin => ?_)
  have C : Cx E X cX5_cellAt 3 RX5 (some .int) 0 0 0 0 := C
  refine mg_iload_n C dX5_cellAt_0 rfl ?_
  refine mg_if_ne C 13 dX5_cellAt_1 (by decide) (fun h1 => ?_) (fun h1 => ?_)
  · refine mg_iload_n C dX5_cellAt_13 rfl ?_
    refine mg_iconst (v := 1) C dX5_cellAt_14 (by decide) ?_
    refine mg_icmp_ne C 27 dX5_cellAt_15 (by decide) (fun h15 => ?_) (fun h15 => ?_)
    · refine mg_aload_n C dX5_cellAt_27 rfl ?_
      refine mg_get C inG_X5 fX5_26 (ci := 5) rfl rfl 17 rfl rfl dX5_cellAt_28 ?_
      refine mg_iload_n C dX5_cellAt_31 rfl ?_
      refine mg_iald C 14 rfl (hz) dX5_cellAt_32 ?_
      exact mg_iret C hQ dX5_cellAt_33 (⟨by rw [tc, if_neg h1, if_neg h15] <;> first | rfl | decide, rfl⟩)
    · refine mg_aload_n C dX5_cellAt_18 rfl ?_
      refine mg_get C inG_X5 fX5_23 (ci := 5) rfl rfl 17 rfl rfl dX5_cellAt_19 ?_
      refine mg_iload_n C dX5_cellAt_22 rfl ?_
      refine mg_iald C 15 rfl (hz) dX5_cellAt_23 ?_
      refine mg_goto C 33 dX5_cellAt_24 (by decide) ?_
      exact mg_iret C hQ dX5_cellAt_33 (⟨by rw [tc, if_neg h1, if_pos h15] <;> first | rfl | decide, rfl⟩)
  · refine mg_aload_n C dX5_cellAt_4 rfl ?_
    refine mg_get C inG_X5 fX5_19 (ci := 5) rfl rfl 17 rfl rfl dX5_cellAt_5 ?_
    refine mg_iload_n C dX5_cellAt_8 rfl ?_
    refine mg_iald C 16 rfl (hz) dX5_cellAt_9 ?_
    refine mg_goto C 33 dX5_cellAt_10 (by decide) ?_
    exact mg_iret C hQ dX5_cellAt_33 (⟨by rw [tc, if_pos h1] <;> first | rfl | decide, rfl⟩)
set_option maxHeartbeats 400000 in
set_option maxRecDepth 100000 in
theorem ct_X5_hasTable (E : En) (ad : Nat → Nat) (g : Nat → Int32) (a : Nat → Nat → Int32) (v : Nat → Int64) (tl : va_W)   : Ct E mX5_hasTable 0 0 0 [.ref (ad 17)] (mw E ad g a v tl) (fun o w => o = some (.int (ex g)) ∧ w = mw E ad g a v tl) := by
  refine Ct.of (by decide) (Nat.le_of_ble_eq_true rfl) (fun X C hQ hin => ?_)
  have C : Cx E X cX5_hasTable 1 RX5 (some .boolean) 0 0 0 0 := C
  refine mg_aload_n C dX5_hasTable_0 rfl ?_
  refine mg_get C inG_X5 fX5_82 (ci := 5) rfl rfl 17 rfl rfl dX5_hasTable_1 ?_
  refine mg_if_le C 11 dX5_hasTable_4 (by decide) (fun h4 => ?_) (fun h4 => ?_)
  · refine mg_iconst (v := 0) C dX5_hasTable_11 (by decide) ?_
    exact mg_zret C hQ (rfl) dX5_hasTable_12 (⟨by rw [ex, if_pos h4] <;> first | rfl | decide, rfl⟩)
  · refine mg_iconst (v := 1) C dX5_hasTable_7 (by decide) ?_
    refine mg_goto C 12 dX5_hasTable_8 (by decide) ?_
    exact mg_zret C hQ (rfl) dX5_hasTable_12 (⟨by rw [ex, if_neg h4] <;> first | rfl | decide, rfl⟩)
def wr (a : Nat → Nat → Int32) (z y : Int32) : Int32 := if a 1 z.toNatClampNeg = -1 then 1 else if a 1 z.toNatClampNeg = y then 1 else 0
def wa (a : Nat → Nat → Int32) (z y : Int32) : Nat → Nat → Int32 := if wr a z y = 0 then a else ups (ups a 0 z.toNatClampNeg y) 2 z.toNatClampNeg 0
theorem wr_t {a : Nat → Nat → Int32} {z y : Int32} (h : a 1 z.toNatClampNeg = -1) : wr a z y = 1 := by rw [wr, if_pos h]
theorem wr_f {a : Nat → Nat → Int32} {z y : Int32} (h : ¬ a 1 z.toNatClampNeg = -1) (h2 : a 1 z.toNatClampNeg = y) : wr a z y = 1 := by rw [wr, if_neg h, if_pos h2]
theorem wr_n {a : Nat → Nat → Int32} {z y : Int32} (h : ¬ a 1 z.toNatClampNeg = -1) (h2 : ¬ a 1 z.toNatClampNeg = y) : wr a z y = 0 := by rw [wr, if_neg h, if_neg h2]
theorem wa_t {a : Nat → Nat → Int32} {z y : Int32} (h : wr a z y = 1) : wa a z y = ups (ups a 0 z.toNatClampNeg y) 2 z.toNatClampNeg 0 := by rw [wa, if_neg (by rw [h]; decide)]
theorem wa_f {a : Nat → Nat → Int32} {z y : Int32} (h : wr a z y = 0) : wa a z y = a := by rw [wa, if_pos h]
set_option maxHeartbeats 400000 in
set_option maxRecDepth 100000 in
theorem ct_X5_writes (E : En) (ad : Nat → Nat) (g : Nat → Int32) (a : Nat → Nat → Int32) (v : Nat → Int64) (tl : va_W) (z y : Int32) (hz : vp_in z 192) : Ct E mX5_writes 0 0 0 [.ref (ad 17), .int z, .int y] (mw E ad g a v tl) (fun o w => o = some (.int (wr a z y)) ∧ w = mw E ad g (wa a z y) v tl) := by
  refine Ct.of (by decide) (Nat.le_of_ble_eq_true rfl) (fun X C hQ hin => ?_)
  have C : Cx E X cX5_writes 3 RX5 (some .boolean) 0 0 0 0 := C
  refine mg_aload_n C dX5_writes_0 rfl ?_
  refine mg_get C inG_X5 fX5_23 (ci := 5) rfl rfl 17 rfl rfl dX5_writes_1 ?_
  refine mg_iload_n C dX5_writes_4 rfl ?_
  refine mg_iald C 15 rfl (hz) dX5_writes_5 ?_
  refine mg_iconst (v := (-1)) C dX5_writes_6 (by decide) ?_
  refine mg_icmp_eq C 22 dX5_writes_7 (by decide) (fun h7 => ?_) (fun h7 => ?_)
  · refine mg_aload_n C dX5_writes_22 rfl ?_
    refine mg_get C inG_X5 fX5_19 (ci := 5) rfl rfl 17 rfl rfl dX5_writes_23 ?_
    refine mg_iload_n C dX5_writes_26 rfl ?_
    refine mg_iload_n C dX5_writes_27 rfl ?_
    refine mg_iast C 16 rfl (hz) dX5_writes_28 (ws' := (mw E ad g (ups a 0 (z : Int32).toNatClampNeg y) v tl)) rfl ?_
    refine mg_aload_n C dX5_writes_29 rfl ?_
    refine mg_get C inG_X5 fX5_26 (ci := 5) rfl rfl 17 rfl rfl dX5_writes_30 ?_
    refine mg_iload_n C dX5_writes_33 rfl ?_
    refine mg_iconst (v := 0) C dX5_writes_34 (by decide) ?_
    refine mg_iast C 14 rfl (hz) dX5_writes_35 (ws' := (mw E ad g (ups (ups a 0 (z : Int32).toNatClampNeg y) 2 (z : Int32).toNatClampNeg 0) v tl)) rfl ?_
    refine mg_iconst (v := 1) C dX5_writes_36 (by decide) ?_
    exact mg_zret C hQ (rfl) dX5_writes_37 (⟨by rw [wr_t h7], by rw [wa_t (wr_t h7)]⟩)
  · refine mg_aload_n C dX5_writes_10 rfl ?_
    refine mg_get C inG_X5 fX5_23 (ci := 5) rfl rfl 17 rfl rfl dX5_writes_11 ?_
    refine mg_iload_n C dX5_writes_14 rfl ?_
    refine mg_iald C 15 rfl (hz) dX5_writes_15 ?_
    refine mg_iload_n C dX5_writes_16 rfl ?_
    refine mg_icmp_eq C 22 dX5_writes_17 (by decide) (fun h17 => ?_) (fun h17 => ?_)
    · refine mg_aload_n C dX5_writes_22 rfl ?_
      refine mg_get C inG_X5 fX5_19 (ci := 5) rfl rfl 17 rfl rfl dX5_writes_23 ?_
      refine mg_iload_n C dX5_writes_26 rfl ?_
      refine mg_iload_n C dX5_writes_27 rfl ?_
      refine mg_iast C 16 rfl (hz) dX5_writes_28 (ws' := (mw E ad g (ups a 0 (z : Int32).toNatClampNeg y) v tl)) rfl ?_
      refine mg_aload_n C dX5_writes_29 rfl ?_
      refine mg_get C inG_X5 fX5_26 (ci := 5) rfl rfl 17 rfl rfl dX5_writes_30 ?_
      refine mg_iload_n C dX5_writes_33 rfl ?_
      refine mg_iconst (v := 0) C dX5_writes_34 (by decide) ?_
      refine mg_iast C 14 rfl (hz) dX5_writes_35 (ws' := (mw E ad g (ups (ups a 0 (z : Int32).toNatClampNeg y) 2 (z : Int32).toNatClampNeg 0) v tl)) rfl ?_
      refine mg_iconst (v := 1) C dX5_writes_36 (by decide) ?_
      exact mg_zret C hQ (rfl) dX5_writes_37 (⟨by rw [wr_f h7 h17], by rw [wa_t (wr_f h7 h17)]⟩)
    · refine mg_iconst (v := 0) C dX5_writes_20 (by decide) ?_
      exact mg_zret C hQ (rfl) dX5_writes_21 (⟨by rw [wr_n h7 h17], by rw [wa_f (wr_n h7 h17)]⟩)
set_option maxHeartbeats 400000 in
set_option maxRecDepth 100000 in
theorem ct_X5_converted (E : En) (ad : Nat → Nat) (g : Nat → Int32) (a : Nat → Nat → Int32) (v : Nat → Int64) (tl : va_W) (z : Int32)  : Ct E mX5_converted 0 0 0 [.ref (ad 17), .int z] (mw E ad g a v tl) (fun o w => o = some (.int (if z ≤ (1 : Int32) <<< (g 3 &&& 31) - 1 then z else (1 : Int32) <<< (g 3 &&& 31) - 1)) ∧ w = mw E ad g a v tl) := by
  refine Ct.of (by decide) (Nat.le_of_ble_eq_true rfl) (fun X C hQ hin => ?_)
  have C : Cx E X cX5_converted 3 RX5 (some .int) 0 0 0 0 := C
  refine mg_iconst (v := 1) C dX5_converted_0 (by decide) ?_
  refine mg_aload_n C dX5_converted_1 rfl ?_
  refine mg_get C inG_X5 fX5_32 (ci := 5) rfl rfl 17 rfl rfl dX5_converted_2 ?_
  refine mg_ishl C dX5_converted_5 ?_
  refine mg_iconst (v := 1) C dX5_converted_6 (by decide) ?_
  refine mg_isub C dX5_converted_7 ?_
  refine mg_istore_n C dX5_converted_8 rfl ?_
  refine mg_lve (lv' := [(0, _), (1, _), (2, _)]) rfl ?_
  refine mg_iload_n C dX5_converted_9 rfl ?_
  refine mg_iload_n C dX5_converted_10 rfl ?_
  refine mg_icmp_le C 18 dX5_converted_11 (by decide) (fun h11 => ?_) (fun h11 => ?_)
  · refine mg_iload_n C dX5_converted_18 rfl ?_
    exact mg_iret C hQ dX5_converted_19 (⟨by rw [if_pos h11], rfl⟩)
  · refine mg_iload_n C dX5_converted_14 rfl ?_
    refine mg_goto C 19 dX5_converted_15 (by decide) ?_
    exact mg_iret C hQ dX5_converted_19 (⟨by rw [if_neg h11], rfl⟩)
def bg (g : Nat → Int32) (r c u : Int32) : Nat → Int32 := (ug (ug (ug (ug (ug (rg g r c u) 4 0) 5 0) 6 0) 8 0) 9 0)
set_option maxHeartbeats 400000 in
set_option maxRecDepth 100000 in
theorem ct_X5_begins (E : En) (ad : Nat → Nat) (g : Nat → Int32) (a : Nat → Nat → Int32) (v : Nat → Int64) (tl : va_W) (r c u : Int32) : Ct E mX5_begins 0 0 0 [.ref (ad 17), .int r, .int c, .int u] (mw E ad g a v tl) (fun o w => o = none ∧ w = mw E ad (bg g r c u) (ra a) v tl) := by
  refine Ct.of (by decide) (Nat.le_of_ble_eq_true rfl) (fun X C hQ hin => ?_)
  have C : Cx E X cX5_begins 5 RX5 none 0 0 0 0 := C
  have loop2 : ∀ (m i : Nat) (a1 : Nat → Nat → Int32), 8 < i + m → i ≤ 8 → ((∀ j, j < i → a1 3 j = 0) ∧ ∀ k, k ≠ 3 → a1 k = (upa (upa (upa a 0 (fun _ => 0)) 1 (fun _ => -1)) 2 (fun _ => 0)) k) → GG E X (mw E ad (bg g r c u) a1 v tl) 0 0 90 [(0, .ref (ad 17)), (1, .int r), (2, .int c), (3, .int u), (4, .int (nI i))] [] := by
    intro m
    induction m with
    | zero => intro i a1 hm hi; omega
    | succ m ih =>
      intro i a1 hm hi hv
      refine mg_iload C dX5_begins_90 rfl ?_
      refine mg_bipush (v := 8) C dX5_begins_92 (by decide) ?_
      refine mg_icmp_ge C 111 dX5_begins_94 (by decide) (fun h94 => ?_) (fun h94 => ?_)
      · have e : i = 8 := (by rcases Nat.lt_or_ge i 8 with q | q; exact absurd h94 (nI_ge (b := 8) q (by decide)); omega)
        subst e
        refine mg_arr 13 rfl (f' := fun _ => 0) (fun j hj => hv.1 j hj) (ws' := mw E ad (bg g r c u) (upa a1 3 (fun _ => 0)) v tl) rfl ?_
        refine mg_ws (ws' := mw E ad (bg g r c u) (ra a) v tl) ?_ ?_
        · rw [show upa a1 3 (fun _ => 0) = ra a from by
            funext k
            by_cases hk : k = 3
            · subst hk; rfl
            · have hk3 : Nat.beq k 3 = false := by rw [nbq]; simp; omega
              simp only [upa, ra, hk3, cond_false]
              exact hv.2 k hk]
        exact mg_vret C hQ dX5_begins_111 (⟨rfl, rfl⟩)
      · have hlt : i < 8 := (by rcases Nat.lt_or_ge i 8 with q | q; exact q; exact absurd (show (8 : Int32) ≤ nI i from nI_le (a := 8) q (by omega)) h94)
        have hin4 : vp_in (nI i) 8 := vp_in_nI hlt (by omega)
        refine mg_aload_n C dX5_begins_97 rfl ?_
        refine mg_get C inG_X5 fX5_29 (ci := 5) rfl rfl 17 rfl rfl dX5_begins_98 ?_
        refine mg_iload C dX5_begins_101 rfl ?_
        refine mg_iconst (v := 0) C dX5_begins_103 (by decide) ?_
        refine mg_iast C 13 rfl (hin4) dX5_begins_104 (ws' := (mw E ad (bg g r c u) (ups a1 3 ((nI i) : Int32).toNatClampNeg 0) v tl)) rfl ?_
        refine mg_iinc C dX5_begins_105 rfl rfl ?_
        refine mg_lve (lv' := [(0, _), (1, _), (2, _), (3, _), (4, _)]) rfl ?_
        refine mg_goto C 90 dX5_begins_108 (by decide) ?_
        refine mg_lve (lv' := [(0, .ref (ad 17)), (1, .int r), (2, .int c), (3, .int u), (4, .int (nI (i + 1)))]) (by rw [nI_succ]; rfl) ?_
        refine ih (i + 1) _ (by omega) hlt ⟨fun j hj => ?_, fun k hk => ?_⟩
        · rw [nI_clamp (by omega)]
          by_cases hji : j = i
          · subst hji; exact pk_us
          · exact (pk_un hji).trans (hv.1 j (by omega))
        · rw [← hv.2 k hk]
          have hk3 : Nat.beq k 3 = false := by rw [nbq]; simp; omega
          simp only [ups, hk3, cond_false]
  have fin1 : ∀ a1 : Nat → Nat → Int32, ((∀ j, j < 192 → a1 0 j = 0 ∧ a1 1 j = -1 ∧ a1 2 j = 0) ∧ ∀ k, 3 ≤ k → a1 k = a k) → GG E X (mw E ad (bg g r c u) a1 v tl) 0 0 87 [(0, .ref (ad 17)), (1, .int r), (2, .int c), (3, .int u), (4, .int (nI 192))] [] := by
    intro a1 hv
    refine mg_arr 16 rfl (f' := fun _ => 0) (fun j hj => (hv.1 j hj).1) (ws' := mw E ad (bg g r c u) (upa a1 0 (fun _ => 0)) v tl) rfl ?_
    refine mg_arr 15 rfl (f' := fun _ => -1) (fun j hj => (hv.1 j hj).2.1) (ws' := mw E ad (bg g r c u) (upa (upa a1 0 (fun _ => 0)) 1 (fun _ => -1)) v tl) rfl ?_
    refine mg_arr 14 rfl (f' := fun _ => 0) (fun j hj => (hv.1 j hj).2.2) (ws' := mw E ad (bg g r c u) (upa (upa (upa a1 0 (fun _ => 0)) 1 (fun _ => -1)) 2 (fun _ => 0)) v tl) rfl ?_
    refine mg_iconst (v := 0) C dX5_begins_87 (by decide) ?_
    refine mg_istore C dX5_begins_88 rfl ?_
    refine loop2 9 0 _ (by omega) (by omega) ⟨fun j hj => absurd hj (Nat.not_lt_zero j), fun k hk => ?_⟩
    by_cases h0 : k = 0
    · subst h0; rfl
    by_cases h1 : k = 1
    · subst h1; rfl
    by_cases h2 : k = 2
    · subst h2; rfl
    have hk0 : Nat.beq k 0 = false := by rw [nbq]; simp; omega
    have hk1 : Nat.beq k 1 = false := by rw [nbq]; simp; omega
    have hk2 : Nat.beq k 2 = false := by rw [nbq]; simp; omega
    simp only [upa, hk0, hk1, hk2, cond_false]
    exact hv.2 k (by omega)
  have loop1 : ∀ (m i : Nat) (a1 : Nat → Nat → Int32), 192 < i + m → i ≤ 192 → ((∀ j, j < i → a1 0 j = 0 ∧ a1 1 j = -1 ∧ a1 2 j = 0) ∧ ∀ k, 3 ≤ k → a1 k = a k) → GG E X (mw E ad (bg g r c u) a1 v tl) 0 0 49 [(0, .ref (ad 17)), (1, .int r), (2, .int c), (3, .int u), (4, .int (nI i))] [] := by
    intro m
    induction m with
    | zero => intro i a1 hm hi; omega
    | succ m ih =>
      intro i a1 hm hi hv
      refine mg_iload C dX5_begins_49 rfl ?_
      refine mg_sipush (v := 192) C dX5_begins_51 (by decide) ?_
      refine mg_icmp_ge C 87 dX5_begins_54 (by decide) (fun h54 => ?_) (fun h54 => ?_)
      · have e : i = 192 := (by rcases Nat.lt_or_ge i 192 with q | q; exact absurd h54 (nI_ge (b := 192) q (by decide)); omega)
        subst e
        exact fin1 a1 hv
      · have hlt : i < 192 := (by rcases Nat.lt_or_ge i 192 with q | q; exact q; exact absurd (show (192 : Int32) ≤ nI i from nI_le (a := 192) q (by omega)) h54)
        have hin4 : vp_in (nI i) 192 := vp_in_nI hlt (by omega)
        refine mg_aload_n C dX5_begins_57 rfl ?_
        refine mg_get C inG_X5 fX5_19 (ci := 5) rfl rfl 17 rfl rfl dX5_begins_58 ?_
        refine mg_iload C dX5_begins_61 rfl ?_
        refine mg_iconst (v := 0) C dX5_begins_63 (by decide) ?_
        refine mg_iast C 16 rfl (hin4) dX5_begins_64 (ws' := (mw E ad (bg g r c u) (ups a1 0 ((nI i) : Int32).toNatClampNeg 0) v tl)) rfl ?_
        refine mg_aload_n C dX5_begins_65 rfl ?_
        refine mg_get C inG_X5 fX5_23 (ci := 5) rfl rfl 17 rfl rfl dX5_begins_66 ?_
        refine mg_iload C dX5_begins_69 rfl ?_
        refine mg_iconst (v := (-1)) C dX5_begins_71 (by decide) ?_
        refine mg_iast C 15 rfl (hin4) dX5_begins_72 (ws' := (mw E ad (bg g r c u) (ups (ups a1 0 ((nI i) : Int32).toNatClampNeg 0) 1 ((nI i) : Int32).toNatClampNeg (-1)) v tl)) rfl ?_
        refine mg_aload_n C dX5_begins_73 rfl ?_
        refine mg_get C inG_X5 fX5_26 (ci := 5) rfl rfl 17 rfl rfl dX5_begins_74 ?_
        refine mg_iload C dX5_begins_77 rfl ?_
        refine mg_iconst (v := 0) C dX5_begins_79 (by decide) ?_
        refine mg_iast C 14 rfl (hin4) dX5_begins_80 (ws' := (mw E ad (bg g r c u) (ups (ups (ups a1 0 ((nI i) : Int32).toNatClampNeg 0) 1 ((nI i) : Int32).toNatClampNeg (-1)) 2 ((nI i) : Int32).toNatClampNeg 0) v tl)) rfl ?_
        refine mg_iinc C dX5_begins_81 rfl rfl ?_
        refine mg_lve (lv' := [(0, _), (1, _), (2, _), (3, _), (4, _)]) rfl ?_
        refine mg_goto C 49 dX5_begins_84 (by decide) ?_
        refine mg_lve (lv' := [(0, .ref (ad 17)), (1, .int r), (2, .int c), (3, .int u), (4, .int (nI (i + 1)))]) (by rw [nI_succ]; rfl) ?_
        refine ih (i + 1) _ (by omega) hlt ⟨fun j hj => ?_, fun k hk => ?_⟩
        · rw [nI_clamp (by omega)]
          by_cases hji : j = i
          · subst hji; exact ⟨pk_us, pk_us, pk_us⟩
          · obtain ⟨q1, q2, q3⟩ := hv.1 j (by omega)
            exact ⟨(pk_un hji).trans q1, (pk_un hji).trans q2, (pk_un hji).trans q3⟩
        · rw [← hv.2 k hk]
          have hk0 : Nat.beq k 0 = false := by rw [nbq]; simp; omega
          have hk1 : Nat.beq k 1 = false := by rw [nbq]; simp; omega
          have hk2 : Nat.beq k 2 = false := by rw [nbq]; simp; omega
          simp only [ups, hk0, hk1, hk2, cond_false]
  refine mg_aload_n C dX5_begins_0 rfl ?_
  refine mg_iload_n C dX5_begins_1 rfl ?_
  refine mg_put C inG_X5 fX5_7 (ci := 5) rfl rfl tyX5 tyX5_ok nmX5 rfl 17 rfl rfl rfl rfl dX5_begins_2 (ws' := (mw E ad (ug g 0 r) a v tl)) rfl ?_
  refine mg_aload_n C dX5_begins_5 rfl ?_
  refine mg_iload_n C dX5_begins_6 rfl ?_
  refine mg_put C inG_X5 fX5_13 (ci := 5) rfl rfl tyX5 tyX5_ok nmX5 rfl 17 rfl rfl rfl rfl dX5_begins_7 (ws' := (mw E ad (ug (ug g 0 r) 1 c) a v tl)) rfl ?_
  refine mg_aload_n C dX5_begins_10 rfl ?_
  refine mg_iload_n C dX5_begins_11 rfl ?_
  refine mg_put C inG_X5 fX5_16 (ci := 5) rfl rfl tyX5 tyX5_ok nmX5 rfl 17 rfl rfl rfl rfl dX5_begins_12 (ws' := (mw E ad (ug (ug (ug g 0 r) 1 c) 2 u) a v tl)) rfl ?_
  refine mg_aload_n C dX5_begins_15 rfl ?_
  refine mg_bipush (v := 16) C dX5_begins_16 (by decide) ?_
  refine mg_put C inG_X5 fX5_32 (ci := 5) rfl rfl tyX5 tyX5_ok nmX5 rfl 17 rfl rfl rfl rfl dX5_begins_18 (ws' := (mw E ad (ug (ug (ug (ug g 0 r) 1 c) 2 u) 3 16) a v tl)) rfl ?_
  refine mg_aload_n C dX5_begins_21 rfl ?_
  refine mg_iconst (v := 0) C dX5_begins_22 (by decide) ?_
  refine mg_put C inG_X5 fX5_82 (ci := 5) rfl rfl tyX5 tyX5_ok nmX5 rfl 17 rfl rfl rfl rfl dX5_begins_23 (ws' := (mw E ad (ug (ug (ug (ug (ug g 0 r) 1 c) 2 u) 3 16) 4 0) a v tl)) rfl ?_
  refine mg_aload_n C dX5_begins_26 rfl ?_
  refine mg_iconst (v := 0) C dX5_begins_27 (by decide) ?_
  refine mg_put C inG_X5 fX5_85 (ci := 5) rfl rfl tyX5 tyX5_ok nmX5 rfl 17 rfl rfl rfl rfl dX5_begins_28 (ws' := (mw E ad (ug (ug (ug (ug (ug (ug g 0 r) 1 c) 2 u) 3 16) 4 0) 5 0) a v tl)) rfl ?_
  refine mg_aload_n C dX5_begins_31 rfl ?_
  refine mg_iconst (v := 0) C dX5_begins_32 (by decide) ?_
  refine mg_put C inG_X5 fX5_88 (ci := 5) rfl rfl tyX5 tyX5_ok nmX5 rfl 17 rfl rfl rfl rfl dX5_begins_33 (ws' := (mw E ad (ug (ug (ug (ug (ug (ug (ug g 0 r) 1 c) 2 u) 3 16) 4 0) 5 0) 6 0) a v tl)) rfl ?_
  refine mg_aload_n C dX5_begins_36 rfl ?_
  refine mg_iconst (v := 0) C dX5_begins_37 (by decide) ?_
  refine mg_put C inG_X5 fX5_91 (ci := 5) rfl rfl tyX5 tyX5_ok nmX5 rfl 17 rfl rfl rfl rfl dX5_begins_38 (ws' := (mw E ad (ug (ug (ug (ug (ug (ug (ug (ug g 0 r) 1 c) 2 u) 3 16) 4 0) 5 0) 6 0) 8 0) a v tl)) rfl ?_
  refine mg_aload_n C dX5_begins_41 rfl ?_
  refine mg_iconst (v := 0) C dX5_begins_42 (by decide) ?_
  refine mg_put C inG_X5 fX5_95 (ci := 5) rfl rfl tyX5 tyX5_ok nmX5 rfl 17 rfl rfl rfl rfl dX5_begins_43 (ws' := (mw E ad (ug (ug (ug (ug (ug (ug (ug (ug (ug g 0 r) 1 c) 2 u) 3 16) 4 0) 5 0) 6 0) 8 0) 9 0) a v tl)) rfl ?_
  refine mg_iconst (v := 0) C dX5_begins_46 (by decide) ?_
  refine mg_istore C dX5_begins_47 rfl ?_
  refine mg_lve (lv' := [(0, _), (1, _), (2, _), (3, _), (4, _)]) rfl ?_
  exact loop1 193 0 a (by omega) (by omega) ⟨fun j hj => absurd hj (Nat.not_lt_zero j), fun k _ => rfl⟩
set_option maxHeartbeats 400000 in
set_option maxRecDepth 100000 in
theorem ct_X5_mesh (E : En) (ad : Nat → Nat) (tl : va_W) (r c u : Int32)  : Ct E mX5_mesh 1 0 0 [.ref (ad 17), .int r, .int c, .int u] (mw E ad gF aF vF tl) (fun o w => o = some (.int (anMesh r c u)) ∧ True) := by
  refine Ct.of (by decide) (Nat.le_of_ble_eq_true rfl) (fun X C hQ hin => ?_)
  have C : Cx E X cX5_mesh 4 RX5 (some .int) 1 40 0 0 := C
  refine mg_iload_n C dX5_mesh_0 rfl ?_
  refine mg_iconst (v := 1) C dX5_mesh_1 (by decide) ?_
  refine mg_bipush (v := 8) C dX5_mesh_2 (by decide) ?_
  refine mg_callS C (ct_X5_in E _ _ _ _) oX5_98 rfl rfl rfl dX5_mesh_4 (fun o4 w4 z4 => ?_)
  obtain ⟨rfl, rfl⟩ := z4
  refine mg_v ?_
  refine mg_if_eq C 30 dX5_mesh_7 (by decide) (fun h7 => ?_) (fun h7 => ?_)
  · refine mg_bipush (v := (-2)) C dX5_mesh_30 (by decide) ?_
    exact mg_iret C hQ dX5_mesh_32 (⟨by rw [anMesh, if_pos h7] <;> first | rfl | decide, trivial⟩)
  · refine mg_iload_n C dX5_mesh_10 rfl ?_
    refine mg_iconst (v := 1) C dX5_mesh_11 (by decide) ?_
    refine mg_bipush (v := 24) C dX5_mesh_12 (by decide) ?_
    refine mg_callS C (ct_X5_in E _ _ _ _) oX5_98 rfl rfl rfl dX5_mesh_14 (fun o14 w14 z14 => ?_)
    obtain ⟨rfl, rfl⟩ := z14
    refine mg_v ?_
    refine mg_if_eq C 30 dX5_mesh_17 (by decide) (fun h17 => ?_) (fun h17 => ?_)
    · refine mg_bipush (v := (-2)) C dX5_mesh_30 (by decide) ?_
      exact mg_iret C hQ dX5_mesh_32 (⟨by rw [anMesh, if_neg h7, if_pos h17] <;> first | rfl | decide, trivial⟩)
    · refine mg_iload_n C dX5_mesh_20 rfl ?_
      refine mg_iconst (v := 1) C dX5_mesh_21 (by decide) ?_
      refine mg_bipush (v := 15) C dX5_mesh_22 (by decide) ?_
      refine mg_callS C (ct_X5_in E _ _ _ _) oX5_98 rfl rfl rfl dX5_mesh_24 (fun o24 w24 z24 => ?_)
      obtain ⟨rfl, rfl⟩ := z24
      refine mg_v ?_
      refine mg_if_ne C 33 dX5_mesh_27 (by decide) (fun h27 => ?_) (fun h27 => ?_)
      · refine mg_aload_n C dX5_mesh_33 rfl ?_
        refine mg_iload_n C dX5_mesh_34 rfl ?_
        refine mg_iload_n C dX5_mesh_35 rfl ?_
        refine mg_iload_n C dX5_mesh_36 rfl ?_
        refine mg_callV C (ct_X5_begins E _ _ _ _ _ _ _ _) oX5_78 17 rfl rfl rfl rfl rfl dX5_mesh_37 (fun o37 w37 z37 => ?_)
        obtain ⟨rfl, rfl⟩ := z37
        refine mg_v0 ?_
        refine mg_iconst (v := 1) C dX5_mesh_40 (by decide) ?_
        exact mg_iret C hQ dX5_mesh_41 (⟨by rw [anMesh, if_neg h7, if_neg h17, if_neg h27] <;> first | rfl | decide, trivial⟩)
      · refine mg_bipush (v := (-2)) C dX5_mesh_30 (by decide) ?_
        exact mg_iret C hQ dX5_mesh_32 (⟨by rw [anMesh, if_neg h7, if_neg h17, if_pos h27] <;> first | rfl | decide, trivial⟩)
set_option maxHeartbeats 400000 in
set_option maxRecDepth 100000 in
theorem ct_X5_write (E : En) (ad : Nat → Nat) (tl : va_W) (r c y : Int32)  : Ct E mX5_write 2 0 0 [.ref (ad 17), .int r, .int c, .int y] (mw E ad gF aF vF tl) (fun o w => o = some (.int (anWrite r c y)) ∧ True) := by
  refine Ct.of (by decide) (Nat.le_of_ble_eq_true rfl) (fun X C hQ hin => ?_)
  have C : Cx E X cX5_write 4 RX5 (some .int) 2 80 0 0 := C
  refine mg_aload_n C dX5_write_0 rfl ?_
  refine mg_iload_n C dX5_write_1 rfl ?_
  refine mg_iload_n C dX5_write_2 rfl ?_
  refine mg_callV C (ct_X5_isCell E _ _ _ _ _ _ _) oX5_102 17 rfl rfl rfl rfl rfl dX5_write_3 (fun o3 w3 z3 => ?_)
  obtain ⟨rfl, rfl⟩ := z3
  refine mg_v ?_
  refine mg_if_eq C 21 dX5_write_6 (by decide) (fun h6 => ?_) (fun h6 => ?_)
  · refine mg_bipush (v := (-2)) C dX5_write_21 (by decide) ?_
    exact mg_iret C hQ dX5_write_23 (⟨by rw [anWrite, if_pos h6] <;> first | rfl | decide, trivial⟩)
  · obtain ⟨rfl, rfl⟩ := hcF h6
    refine mg_iload_n C dX5_write_9 rfl ?_
    refine mg_iconst (v := 0) C dX5_write_10 (by decide) ?_
    refine mg_aload_n C dX5_write_11 rfl ?_
    refine mg_get C inG_X5 fX5_16 (ci := 5) rfl rfl 17 rfl rfl dX5_write_12 ?_
    refine mg_callS C (ct_X5_in E _ _ _ _) oX5_98 rfl rfl rfl dX5_write_15 (fun o15 w15 z15 => ?_)
    obtain ⟨rfl, rfl⟩ := z15
    refine mg_v ?_
    refine mg_if_ne C 24 dX5_write_18 (by decide) (fun h18 => ?_) (fun h18 => ?_)
    · refine mg_aload_n C dX5_write_24 rfl ?_
      refine mg_bipush (v := 24) C dX5_write_25 (by decide) ?_
      refine mg_iload_n C dX5_write_27 rfl ?_
      refine mg_imul C dX5_write_28 ?_
      refine mg_iload_n C dX5_write_29 rfl ?_
      refine mg_iadd C dX5_write_30 ?_
      refine mg_iload_n C dX5_write_31 rfl ?_
      refine mg_callV C (ct_X5_writes E _ _ _ _ _ _ _ vin0') oX5_106 17 rfl rfl rfl rfl rfl dX5_write_32 (fun o32 w32 z32 => ?_)
      obtain ⟨rfl, rfl⟩ := z32
      refine mg_v ?_
      refine mg_if_eq C 42 dX5_write_35 (by decide) (fun h35 => absurd h35 (fun hh => absurd ((wr_t rfl).symm.trans hh) (by decide))) (fun h35 => ?_)
      refine mg_iconst (v := 1) C dX5_write_38 (by decide) ?_
      refine mg_goto C 44 dX5_write_39 (by decide) ?_
      exact mg_iret C hQ dX5_write_44 (⟨by rw [anWrite, if_neg h6, if_neg h18] <;> first | rfl | decide, trivial⟩)
    · refine mg_bipush (v := (-2)) C dX5_write_21 (by decide) ?_
      exact mg_iret C hQ dX5_write_23 (⟨by rw [anWrite, if_neg h6, if_pos h18] <;> first | rfl | decide, trivial⟩)
set_option maxHeartbeats 400000 in
set_option maxRecDepth 100000 in
theorem ct_X5_stick (E : En) (ad : Nat → Nat) (tl : va_W) (r c y : Int32)  : Ct E mX5_stick 2 0 0 [.ref (ad 17), .int r, .int c, .int y] (mw E ad gF aF vF tl) (fun o w => o = some (.int (anStick r c y)) ∧ True) := by
  refine Ct.of (by decide) (Nat.le_of_ble_eq_true rfl) (fun X C hQ hin => ?_)
  have C : Cx E X cX5_stick 5 RX5 (some .int) 2 80 0 0 := C
  refine mg_aload_n C dX5_stick_0 rfl ?_
  refine mg_iload_n C dX5_stick_1 rfl ?_
  refine mg_iload_n C dX5_stick_2 rfl ?_
  refine mg_callV C (ct_X5_isCell E _ _ _ _ _ _ _) oX5_102 17 rfl rfl rfl rfl rfl dX5_stick_3 (fun o3 w3 z3 => ?_)
  obtain ⟨rfl, rfl⟩ := z3
  refine mg_v ?_
  refine mg_if_eq C 21 dX5_stick_6 (by decide) (fun h6 => ?_) (fun h6 => ?_)
  · refine mg_bipush (v := (-2)) C dX5_stick_21 (by decide) ?_
    exact mg_iret C hQ dX5_stick_23 (⟨by rw [anStick, if_pos h6] <;> first | rfl | decide, trivial⟩)
  · obtain ⟨rfl, rfl⟩ := hcF h6
    refine mg_iload_n C dX5_stick_9 rfl ?_
    refine mg_iconst (v := (-1)) C dX5_stick_10 (by decide) ?_
    refine mg_aload_n C dX5_stick_11 rfl ?_
    refine mg_get C inG_X5 fX5_16 (ci := 5) rfl rfl 17 rfl rfl dX5_stick_12 ?_
    refine mg_callS C (ct_X5_in E _ _ _ _) oX5_98 rfl rfl rfl dX5_stick_15 (fun o15 w15 z15 => ?_)
    obtain ⟨rfl, rfl⟩ := z15
    refine mg_v ?_
    refine mg_if_ne C 24 dX5_stick_18 (by decide) (fun h18 => ?_) (fun h18 => ?_)
    · refine mg_bipush (v := 24) C dX5_stick_24 (by decide) ?_
      refine mg_iload_n C dX5_stick_26 rfl ?_
      refine mg_imul C dX5_stick_27 ?_
      refine mg_iload_n C dX5_stick_28 rfl ?_
      refine mg_iadd C dX5_stick_29 ?_
      refine mg_istore C dX5_stick_30 rfl ?_
      refine mg_lve (lv' := [(0, _), (1, _), (2, _), (3, _), (4, _)]) rfl ?_
      refine mg_aload_n C dX5_stick_32 rfl ?_
      refine mg_get C inG_X5 fX5_23 (ci := 5) rfl rfl 17 rfl rfl dX5_stick_33 ?_
      refine mg_iload C dX5_stick_36 rfl ?_
      refine mg_iload_n C dX5_stick_38 rfl ?_
      refine mg_iast C 15 rfl (vin0') dX5_stick_39 (ws' := (mw E ad gF (ups aF 1 _ y) vF tl)) rfl ?_
      refine mg_aload_n C dX5_stick_40 rfl ?_
      refine mg_get C inG_X5 fX5_19 (ci := 5) rfl rfl 17 rfl rfl dX5_stick_41 ?_
      refine mg_iload C dX5_stick_44 rfl ?_
      refine mg_iload_n C dX5_stick_46 rfl ?_
      refine mg_iconst (v := (-1)) C dX5_stick_47 (by decide) ?_
      refine mg_icmp_ne C 61 dX5_stick_48 (by decide) (fun h48 => ?_) (fun h48 => ?_)
      · refine mg_iload_n C dX5_stick_61 rfl ?_
        refine mg_iast C 16 rfl (vin0') dX5_stick_62 (ws' := (mw E ad gF (ups (ups aF 1 _ y) 0 _ y) vF tl)) rfl ?_
        refine mg_iconst (v := 1) C dX5_stick_63 (by decide) ?_
        exact mg_iret C hQ dX5_stick_64 (⟨by rw [anStick, if_neg h6, if_neg h18] <;> first | rfl | decide, trivial⟩)
      · refine mg_aload_n C dX5_stick_51 rfl ?_
        refine mg_get C inG_X5 fX5_19 (ci := 5) rfl rfl 17 rfl rfl dX5_stick_52 ?_
        refine mg_iload C dX5_stick_55 rfl ?_
        refine mg_iald C 16 rfl (vin0') dX5_stick_57 ?_
        refine mg_goto C 62 dX5_stick_58 (by decide) ?_
        refine mg_topi (fun zv62 ezv62 => ?_)
        refine mg_iast C 16 rfl (vin0') dX5_stick_62 (ws' := (mw E ad gF (ups (ups aF 1 _ y) 0 _ zv62) vF tl)) rfl ?_
        refine mg_iconst (v := 1) C dX5_stick_63 (by decide) ?_
        exact mg_iret C hQ dX5_stick_64 (⟨by rw [anStick, if_neg h6, if_neg h18] <;> first | rfl | decide, trivial⟩)
    · refine mg_bipush (v := (-2)) C dX5_stick_21 (by decide) ?_
      exact mg_iret C hQ dX5_stick_23 (⟨by rw [anStick, if_neg h6, if_pos h18] <;> first | rfl | decide, trivial⟩)
set_option maxHeartbeats 400000 in
set_option maxRecDepth 100000 in
theorem ct_X5_cell (E : En) (ad : Nat → Nat) (tl : va_W) (r c u : Int32)  : Ct E mX5_cell 2 0 0 [.ref (ad 17), .int r, .int c, .int u] (mw E ad gF aF vF tl) (fun o w => o = some (.int (anCell r c u)) ∧ True) := by
  refine Ct.of (by decide) (Nat.le_of_ble_eq_true rfl) (fun X C hQ hin => ?_)
  have C : Cx E X cX5_cell 4 RX5 (some .int) 2 80 0 0 := C
  refine mg_aload_n C dX5_cell_0 rfl ?_
  refine mg_iload_n C dX5_cell_1 rfl ?_
  refine mg_iload_n C dX5_cell_2 rfl ?_
  refine mg_callV C (ct_X5_isCell E _ _ _ _ _ _ _) oX5_102 17 rfl rfl rfl rfl rfl dX5_cell_3 (fun o3 w3 z3 => ?_)
  obtain ⟨rfl, rfl⟩ := z3
  refine mg_v ?_
  refine mg_if_eq C 32 dX5_cell_6 (by decide) (fun h6 => ?_) (fun h6 => ?_)
  · refine mg_bipush (v := (-2)) C dX5_cell_32 (by decide) ?_
    exact mg_iret C hQ dX5_cell_34 (⟨by rw [anCell, if_pos h6] <;> first | rfl | decide, trivial⟩)
  · obtain ⟨rfl, rfl⟩ := hcF h6
    refine mg_iload_n C dX5_cell_9 rfl ?_
    refine mg_iconst (v := 0) C dX5_cell_10 (by decide) ?_
    refine mg_iconst (v := 2) C dX5_cell_11 (by decide) ?_
    refine mg_callS C (ct_X5_in E _ _ _ _) oX5_98 rfl rfl rfl dX5_cell_12 (fun o12 w12 z12 => ?_)
    obtain ⟨rfl, rfl⟩ := z12
    refine mg_v ?_
    refine mg_if_eq C 32 dX5_cell_15 (by decide) (fun h15 => ?_) (fun h15 => ?_)
    · refine mg_bipush (v := (-2)) C dX5_cell_32 (by decide) ?_
      exact mg_iret C hQ dX5_cell_34 (⟨by rw [anCell, if_neg h6, if_pos h15] <;> first | rfl | decide, trivial⟩)
    · refine mg_aload_n C dX5_cell_18 rfl ?_
      refine mg_bipush (v := 24) C dX5_cell_19 (by decide) ?_
      refine mg_iload_n C dX5_cell_21 rfl ?_
      refine mg_imul C dX5_cell_22 ?_
      refine mg_iload_n C dX5_cell_23 rfl ?_
      refine mg_iadd C dX5_cell_24 ?_
      refine mg_iload_n C dX5_cell_25 rfl ?_
      refine mg_callV C (ct_X5_cellAt E _ _ _ _ _ _ _ vin0') oX5_109 17 rfl rfl rfl rfl rfl dX5_cell_26 (fun o26 w26 z26 => ?_)
      obtain ⟨rfl, rfl⟩ := z26
      refine mg_v ?_
      refine mg_goto C 34 dX5_cell_29 (by decide) ?_
      exact mg_iret C hQ dX5_cell_34 (⟨by rw [anCell, if_neg h6, if_neg h15] <;> first | rfl | decide, trivial⟩)
set_option maxHeartbeats 400000 in
set_option maxRecDepth 100000 in
theorem ct_X5_input (E : En) (ad : Nat → Nat) (tl : va_W) (r x : Int32)  : Ct E mX5_input 1 0 0 [.ref (ad 17), .int r, .int x] (mw E ad gF aF vF tl) (fun o w => o = some (.int (anInput r x)) ∧ True) := by
  refine Ct.of (by decide) (Nat.le_of_ble_eq_true rfl) (fun X C hQ hin => ?_)
  have C : Cx E X cX5_input 4 RX5 (some .int) 1 40 0 0 := C
  refine mg_iload_n C dX5_input_0 rfl ?_
  refine mg_iconst (v := 0) C dX5_input_1 (by decide) ?_
  refine mg_aload_n C dX5_input_2 rfl ?_
  refine mg_get C inG_X5 fX5_7 (ci := 5) rfl rfl 17 rfl rfl dX5_input_3 ?_
  refine mg_iconst (v := 1) C dX5_input_6 (by decide) ?_
  refine mg_isub C dX5_input_7 ?_
  refine mg_callS C (ct_X5_in E _ _ _ _) oX5_98 rfl rfl rfl dX5_input_8 (fun o8 w8 z8 => ?_)
  obtain ⟨rfl, rfl⟩ := z8
  refine mg_v ?_
  refine mg_if_eq C 25 dX5_input_11 (by decide) (fun h11 => ?_) (fun h11 => ?_)
  · refine mg_bipush (v := (-2)) C dX5_input_25 (by decide) ?_
    exact mg_iret C hQ dX5_input_27 (⟨by rw [anInput, if_pos h11] <;> first | rfl | decide, trivial⟩)
  · have er := wi0 h11
    subst er
    refine mg_iload_n C dX5_input_14 rfl ?_
    refine mg_iconst (v := 0) C dX5_input_15 (by decide) ?_
    refine mg_sipush (v := 255) C dX5_input_16 (by decide) ?_
    refine mg_callS C (ct_X5_in E _ _ _ _) oX5_98 rfl rfl rfl dX5_input_19 (fun o19 w19 z19 => ?_)
    obtain ⟨rfl, rfl⟩ := z19
    refine mg_v ?_
    refine mg_if_ne C 28 dX5_input_22 (by decide) (fun h22 => ?_) (fun h22 => ?_)
    · refine mg_aload_n C dX5_input_28 rfl ?_
      refine mg_get C inG_X5 fX5_29 (ci := 5) rfl rfl 17 rfl rfl dX5_input_29 ?_
      refine mg_iload_n C dX5_input_32 rfl ?_
      refine mg_iald C 13 rfl (vin00) dX5_input_33 ?_
      refine mg_istore_n C dX5_input_34 rfl ?_
      refine mg_lve (lv' := [(0, _), (1, _), (2, _), (3, _)]) rfl ?_
      refine mg_aload_n C dX5_input_35 rfl ?_
      refine mg_get C inG_X5 fX5_29 (ci := 5) rfl rfl 17 rfl rfl dX5_input_36 ?_
      refine mg_iload_n C dX5_input_39 rfl ?_
      refine mg_iload_n C dX5_input_40 rfl ?_
      refine mg_iast C 13 rfl (vin00) dX5_input_41 (ws' := (mw E ad gF (ups aF 3 (0 : Int32).toNatClampNeg x) vF tl)) rfl ?_
      refine mg_iload_n C dX5_input_42 rfl ?_
      exact mg_iret C hQ dX5_input_43 (⟨by rw [anInput, if_neg h11, if_neg h22] <;> first | rfl | decide, trivial⟩)
    · refine mg_bipush (v := (-2)) C dX5_input_25 (by decide) ?_
      exact mg_iret C hQ dX5_input_27 (⟨by rw [anInput, if_neg h11, if_pos h22] <;> first | rfl | decide, trivial⟩)
set_option maxHeartbeats 400000 in
set_option maxRecDepth 100000 in
theorem ct_X5_bits (E : En) (ad : Nat → Nat) (tl : va_W) (b : Int32)  : Ct E mX5_bits 1 0 0 [.ref (ad 17), .int b] (mw E ad gF aF vF tl) (fun o w => o = some (.int (anBits b)) ∧ True) := by
  refine Ct.of (by decide) (Nat.le_of_ble_eq_true rfl) (fun X C hQ hin => ?_)
  have C : Cx E X cX5_bits 3 RX5 (some .int) 1 40 0 0 := C
  refine mg_iload_n C dX5_bits_0 rfl ?_
  refine mg_iconst (v := 1) C dX5_bits_1 (by decide) ?_
  refine mg_bipush (v := 16) C dX5_bits_2 (by decide) ?_
  refine mg_callS C (ct_X5_in E _ _ _ _) oX5_98 rfl rfl rfl dX5_bits_4 (fun o4 w4 z4 => ?_)
  obtain ⟨rfl, rfl⟩ := z4
  refine mg_v ?_
  refine mg_if_ne C 13 dX5_bits_7 (by decide) (fun h7 => ?_) (fun h7 => ?_)
  · refine mg_aload_n C dX5_bits_13 rfl ?_
    refine mg_get C inG_X5 fX5_32 (ci := 5) rfl rfl 17 rfl rfl dX5_bits_14 ?_
    refine mg_istore_n C dX5_bits_17 rfl ?_
    refine mg_lve (lv' := [(0, _), (1, _), (2, _)]) rfl ?_
    refine mg_aload_n C dX5_bits_18 rfl ?_
    refine mg_iload_n C dX5_bits_19 rfl ?_
    refine mg_put C inG_X5 fX5_32 (ci := 5) rfl rfl tyX5 tyX5_ok nmX5 rfl 17 rfl rfl rfl rfl dX5_bits_20 (ws' := (mw E ad (ug gF 3 b) aF vF tl)) rfl ?_
    refine mg_iload_n C dX5_bits_23 rfl ?_
    exact mg_iret C hQ dX5_bits_24 (⟨by rw [anBits, if_neg h7] <;> first | rfl | decide, trivial⟩)
  · refine mg_bipush (v := (-2)) C dX5_bits_10 (by decide) ?_
    exact mg_iret C hQ dX5_bits_12 (⟨by rw [anBits, if_pos h7] <;> first | rfl | decide, trivial⟩)
set_option maxHeartbeats 400000 in
set_option maxRecDepth 100000 in
theorem cf_sumOf (E : En) (ad : Nat → Nat) (tl : va_W)   : Ct E mX5_sumOf 0 0 0 [.ref (ad 17), .int 0] (mw E ad gF aF vF tl) (fun o w => o = some (.int 0) ∧ w = mw E ad gF aF vF tl) := by
  refine Ct.of (by decide) (Nat.le_of_ble_eq_true rfl) (fun X C hQ hin => ?_)
  have C : Cx E X cX5_sumOf 4 RX5 (some .int) 0 0 0 0 := C
  refine mg_iconst (v := 0) C dX5_sumOf_0 (by decide) ?_
  refine mg_istore_n C dX5_sumOf_1 rfl ?_
  refine mg_lve (lv' := [(0, _), (1, _), (2, _)]) rfl ?_
  refine mg_iconst (v := 0) C dX5_sumOf_2 (by decide) ?_
  refine mg_istore_n C dX5_sumOf_3 rfl ?_
  refine mg_lve (lv' := [(0, _), (1, _), (2, _), (3, _)]) rfl ?_
  refine mg_iload_n C dX5_sumOf_4 rfl ?_
  refine mg_aload_n C dX5_sumOf_5 rfl ?_
  refine mg_get C inG_X5 fX5_7 (ci := 5) rfl rfl 17 rfl rfl dX5_sumOf_6 ?_
  refine mg_icmp_ge C 39 dX5_sumOf_9 (by decide) (fun h9 => absurd h9 (by decide)) (fun h9 => ?_)
  refine mg_iload_n C dX5_sumOf_12 rfl ?_
  refine mg_aload_n C dX5_sumOf_13 rfl ?_
  refine mg_get C inG_X5 fX5_29 (ci := 5) rfl rfl 17 rfl rfl dX5_sumOf_14 ?_
  refine mg_iload_n C dX5_sumOf_17 rfl ?_
  refine mg_iald C 13 rfl (vin00) dX5_sumOf_18 ?_
  refine mg_aload_n C dX5_sumOf_19 rfl ?_
  refine mg_get C inG_X5 fX5_19 (ci := 5) rfl rfl 17 rfl rfl dX5_sumOf_20 ?_
  refine mg_bipush (v := 24) C dX5_sumOf_23 (by decide) ?_
  refine mg_iload_n C dX5_sumOf_25 rfl ?_
  refine mg_imul C dX5_sumOf_26 ?_
  refine mg_iload_n C dX5_sumOf_27 rfl ?_
  refine mg_iadd C dX5_sumOf_28 ?_
  refine mg_iald C 16 rfl (vin0') dX5_sumOf_29 ?_
  refine mg_imul C dX5_sumOf_30 ?_
  refine mg_iadd C dX5_sumOf_31 ?_
  refine mg_istore_n C dX5_sumOf_32 rfl ?_
  refine mg_lve (lv' := [(0, _), (1, _), (2, _), (3, _)]) rfl ?_
  refine mg_iinc C dX5_sumOf_33 rfl rfl ?_
  refine mg_lve (lv' := [(0, _), (1, _), (2, _), (3, _)]) rfl ?_
  refine mg_goto C 4 dX5_sumOf_36 (by decide) ?_
  refine mg_iload_n C dX5_sumOf_4 rfl ?_
  refine mg_aload_n C dX5_sumOf_5 rfl ?_
  refine mg_get C inG_X5 fX5_7 (ci := 5) rfl rfl 17 rfl rfl dX5_sumOf_6 ?_
  refine mg_icmp_ge C 39 dX5_sumOf_9 (by decide) (fun h9 => ?_) (fun h9 => absurd h9 (by decide))
  refine mg_iload_n C dX5_sumOf_39 rfl ?_
  exact mg_iret C hQ dX5_sumOf_40 (⟨rfl, rfl⟩)
set_option maxHeartbeats 400000 in
set_option maxRecDepth 100000 in
theorem ct_X5_sum (E : En) (ad : Nat → Nat) (tl : va_W) (c : Int32)  : Ct E mX5_sum 1 0 0 [.ref (ad 17), .int c] (mw E ad gF aF vF tl) (fun o w => o = some (.int (anSum c)) ∧ True) := by
  refine Ct.of (by decide) (Nat.le_of_ble_eq_true rfl) (fun X C hQ hin => ?_)
  have C : Cx E X cX5_sum 2 RX5 (some .int) 1 40 0 0 := C
  refine mg_iload_n C dX5_sum_0 rfl ?_
  refine mg_iconst (v := 0) C dX5_sum_1 (by decide) ?_
  refine mg_aload_n C dX5_sum_2 rfl ?_
  refine mg_get C inG_X5 fX5_13 (ci := 5) rfl rfl 17 rfl rfl dX5_sum_3 ?_
  refine mg_iconst (v := 1) C dX5_sum_6 (by decide) ?_
  refine mg_isub C dX5_sum_7 ?_
  refine mg_callS C (ct_X5_in E _ _ _ _) oX5_98 rfl rfl rfl dX5_sum_8 (fun o8 w8 z8 => ?_)
  obtain ⟨rfl, rfl⟩ := z8
  refine mg_v ?_
  refine mg_if_eq C 26 dX5_sum_11 (by decide) (fun h11 => ?_) (fun h11 => ?_)
  · refine mg_bipush (v := (-2)) C dX5_sum_26 (by decide) ?_
    exact mg_iret C hQ dX5_sum_28 (⟨by rw [anSum, if_pos h11] <;> first | rfl | decide, trivial⟩)
  · have er := wi0 h11
    subst er
    refine mg_aload_n C dX5_sum_14 rfl ?_
    refine mg_aload_n C dX5_sum_15 rfl ?_
    refine mg_iload_n C dX5_sum_16 rfl ?_
    refine mg_callV C (cf_sumOf E _ _) oX5_113 17 rfl rfl rfl rfl rfl dX5_sum_17 (fun o17 w17 z17 => ?_)
    obtain ⟨rfl, rfl⟩ := z17
    refine mg_v ?_
    refine mg_callV C (ct_X5_converted E _ _ _ _ _ _) oX5_117 17 rfl rfl rfl rfl rfl dX5_sum_20 (fun o20 w20 z20 => ?_)
    obtain ⟨rfl, rfl⟩ := z20
    refine mg_v ?_
    refine mg_goto C 28 dX5_sum_23 (by decide) ?_
    exact mg_iret C hQ dX5_sum_28 (⟨by rw [anSum, if_neg h11] <;> first | rfl | decide, trivial⟩)
set_option maxHeartbeats 400000 in
set_option maxRecDepth 100000 in
theorem ct_X5_table (E : En) (ad : Nat → Nat) (tl : va_W) (n m d : Int32)  : Ct E mX5_table 1 0 0 [.ref (ad 17), .int n, .int m, .int d] (mw E ad gF aF vF tl) (fun o w => o = some (.int (anTable n m d)) ∧ True) := by
  refine Ct.of (by decide) (Nat.le_of_ble_eq_true rfl) (fun X C hQ hin => ?_)
  have C : Cx E X cX5_table 5 RX5 (some .int) 1 40 0 0 := C
  refine mg_iload_n C dX5_table_0 rfl ?_
  refine mg_iconst (v := 1) C dX5_table_1 (by decide) ?_
  refine mg_aload_n C dX5_table_2 rfl ?_
  refine mg_get C inG_X5 fX5_7 (ci := 5) rfl rfl 17 rfl rfl dX5_table_3 ?_
  refine mg_callS C (ct_X5_in E _ _ _ _) oX5_98 rfl rfl rfl dX5_table_6 (fun o6 w6 z6 => ?_)
  obtain ⟨rfl, rfl⟩ := z6
  refine mg_v ?_
  refine mg_if_eq C 32 dX5_table_9 (by decide) (fun h9 => ?_) (fun h9 => ?_)
  · refine mg_bipush (v := (-2)) C dX5_table_32 (by decide) ?_
    exact mg_iret C hQ dX5_table_34 (⟨by rw [anTable, if_pos h9] <;> first | rfl | decide, trivial⟩)
  · refine mg_iload_n C dX5_table_12 rfl ?_
    refine mg_iconst (v := 1) C dX5_table_13 (by decide) ?_
    refine mg_bipush (v := 12) C dX5_table_14 (by decide) ?_
    refine mg_callS C (ct_X5_in E _ _ _ _) oX5_98 rfl rfl rfl dX5_table_16 (fun o16 w16 z16 => ?_)
    obtain ⟨rfl, rfl⟩ := z16
    refine mg_v ?_
    refine mg_if_eq C 32 dX5_table_19 (by decide) (fun h19 => ?_) (fun h19 => ?_)
    · refine mg_bipush (v := (-2)) C dX5_table_32 (by decide) ?_
      exact mg_iret C hQ dX5_table_34 (⟨by rw [anTable, if_neg h9, if_pos h19] <;> first | rfl | decide, trivial⟩)
    · refine mg_iload_n C dX5_table_22 rfl ?_
      refine mg_iconst (v := 1) C dX5_table_23 (by decide) ?_
      refine mg_bipush (v := 6) C dX5_table_24 (by decide) ?_
      refine mg_callS C (ct_X5_in E _ _ _ _) oX5_98 rfl rfl rfl dX5_table_26 (fun o26 w26 z26 => ?_)
      obtain ⟨rfl, rfl⟩ := z26
      refine mg_v ?_
      refine mg_if_ne C 35 dX5_table_29 (by decide) (fun h29 => ?_) (fun h29 => ?_)
      · refine mg_iconst (v := 2) C dX5_table_35 (by decide) ?_
        refine mg_iload_n C dX5_table_36 rfl ?_
        refine mg_imul C dX5_table_37 ?_
        refine mg_iload_n C dX5_table_38 rfl ?_
        refine mg_imul C dX5_table_39 ?_
        refine mg_aload_n C dX5_table_40 rfl ?_
        refine mg_get C inG_X5 fX5_13 (ci := 5) rfl rfl 17 rfl rfl dX5_table_41 ?_
        refine mg_icmp_le C 50 dX5_table_44 (by decide) (fun h44 => absurd h44 (tabF h19 h29)) (fun h44 => ?_)
        refine mg_bipush (v := (-3)) C dX5_table_47 (by decide) ?_
        exact mg_iret C hQ dX5_table_49 (⟨by rw [anTable, if_neg h9, if_neg h19, if_neg h29] <;> first | rfl | decide, trivial⟩)
      · refine mg_bipush (v := (-2)) C dX5_table_32 (by decide) ?_
        exact mg_iret C hQ dX5_table_34 (⟨by rw [anTable, if_neg h9, if_neg h19, if_pos h29] <;> first | rfl | decide, trivial⟩)
set_option maxHeartbeats 400000 in
set_option maxRecDepth 100000 in
theorem ct_X5_number (E : En) (ad : Nat → Nat) (tl : va_W) (i k y : Int32)  : Ct E mX5_number 1 0 0 [.ref (ad 17), .int i, .int k, .int y] (mw E ad gF aF vF tl) (fun o w => o = some (.int (-2000000000)) ∧ True) := by
  refine Ct.of (by decide) (Nat.le_of_ble_eq_true rfl) (fun X C hQ hin => ?_)
  have C : Cx E X cX5_number 5 RX5 (some .int) 1 40 0 0 := C
  refine mg_iload_n C dX5_number_0 rfl ?_
  refine mg_iconst (v := 0) C dX5_number_1 (by decide) ?_
  refine mg_aload_n C dX5_number_2 rfl ?_
  refine mg_get C inG_X5 fX5_82 (ci := 5) rfl rfl 17 rfl rfl dX5_number_3 ?_
  refine mg_iconst (v := 1) C dX5_number_6 (by decide) ?_
  refine mg_isub C dX5_number_7 ?_
  refine mg_callS C (ct_X5_in E _ _ _ _) oX5_98 rfl rfl rfl dX5_number_8 (fun o8 w8 z8 => ?_)
  obtain ⟨rfl, rfl⟩ := z8
  refine mg_v ?_
  refine mg_if_eq C 44 dX5_number_11 (by decide) (fun h11 => ?_) (fun h11 => absurd h11 (fun hh => hh wim))
  refine mg_ldc C dX5_number_44 kX5_124 ?_
  exact mg_iret C hQ dX5_number_46 (⟨rfl, trivial⟩)
set_option maxHeartbeats 400000 in
set_option maxRecDepth 100000 in
theorem ct_X5_lay (E : En) (ad : Nat → Nat) (tl : va_W)   : Ct E mX5_lay 1 0 0 [.ref (ad 17)] (mw E ad gF aF vF tl) (fun o w => o = some (.int (-3)) ∧ True) := by
  refine Ct.of (by decide) (Nat.le_of_ble_eq_true rfl) (fun X C hQ hin => ?_)
  have C : Cx E X cX5_lay 4 RX5 (some .int) 1 40 0 0 := C
  refine mg_aload_n C dX5_lay_0 rfl ?_
  refine mg_callV C (ct_X5_hasTable E _ _ _ _ _) oX5_125 17 rfl rfl rfl rfl rfl dX5_lay_1 (fun o1 w1 z1 => ?_)
  obtain ⟨rfl, rfl⟩ := z1
  refine mg_v ?_
  refine mg_if_ne C 10 dX5_lay_4 (by decide) (fun h4 => absurd h4 (fun hh => hh rfl)) (fun h4 => ?_)
  refine mg_bipush (v := (-3)) C dX5_lay_7 (by decide) ?_
  exact mg_iret C hQ dX5_lay_9 (⟨rfl, trivial⟩)
set_option maxHeartbeats 400000 in
set_option maxRecDepth 100000 in
theorem ct_X5_enough (E : En) (ad : Nat → Nat) (tl : va_W)   : Ct E mX5_enough 1 0 0 [.ref (ad 17)] (mw E ad gF aF vF tl) (fun o w => o = some (.int (-3)) ∧ True) := by
  refine Ct.of (by decide) (Nat.le_of_ble_eq_true rfl) (fun X C hQ hin => ?_)
  have C : Cx E X cX5_enough 2 RX5 (some .int) 1 40 0 0 := C
  refine mg_aload_n C dX5_enough_0 rfl ?_
  refine mg_callV C (ct_X5_hasTable E _ _ _ _ _) oX5_125 17 rfl rfl rfl rfl rfl dX5_enough_1 (fun o1 w1 z1 => ?_)
  obtain ⟨rfl, rfl⟩ := z1
  refine mg_v ?_
  refine mg_if_ne C 10 dX5_enough_4 (by decide) (fun h4 => absurd h4 (fun hh => hh rfl)) (fun h4 => ?_)
  refine mg_bipush (v := (-3)) C dX5_enough_7 (by decide) ?_
  exact mg_iret C hQ dX5_enough_9 (⟨rfl, trivial⟩)
set_option maxHeartbeats 400000 in
set_option maxRecDepth 100000 in
theorem ct_X5_map (E : En) (ad : Nat → Nat) (tl : va_W)   : Ct E mX5_map 1 0 0 [.ref (ad 17)] (mw E ad gF aF vF tl) (fun o w => o = some (.int (-3)) ∧ True) := by
  refine Ct.of (by decide) (Nat.le_of_ble_eq_true rfl) (fun X C hQ hin => ?_)
  have C : Cx E X cX5_map 4 RX5 (some .int) 1 40 0 0 := C
  refine mg_aload_n C dX5_map_0 rfl ?_
  refine mg_callV C (ct_X5_hasTable E _ _ _ _ _) oX5_125 17 rfl rfl rfl rfl rfl dX5_map_1 (fun o1 w1 z1 => ?_)
  obtain ⟨rfl, rfl⟩ := z1
  refine mg_v ?_
  refine mg_if_ne C 10 dX5_map_4 (by decide) (fun h4 => absurd h4 (fun hh => hh rfl)) (fun h4 => ?_)
  refine mg_bipush (v := (-3)) C dX5_map_7 (by decide) ?_
  exact mg_iret C hQ dX5_map_9 (⟨rfl, trivial⟩)
set_option maxHeartbeats 400000 in
set_option maxRecDepth 100000 in
theorem ct_X5_product (E : En) (ad : Nat → Nat) (tl : va_W) (k : Int32)  : Ct E mX5_product 1 0 0 [.ref (ad 17), .int k] (mw E ad gF aF vF tl) (fun o w => o = some (.long (-2000000000000000000)) ∧ True) := by
  refine Ct.of (by decide) (Nat.le_of_ble_eq_true rfl) (fun X C hQ hin => ?_)
  have C : Cx E X cX5_product 9 RX5 (some .long) 1 40 0 0 := C
  refine mg_iload_n C dX5_product_0 rfl ?_
  refine mg_iconst (v := 0) C dX5_product_1 (by decide) ?_
  refine mg_aload_n C dX5_product_2 rfl ?_
  refine mg_get C inG_X5 fX5_85 (ci := 5) rfl rfl 17 rfl rfl dX5_product_3 ?_
  refine mg_iconst (v := 1) C dX5_product_6 (by decide) ?_
  refine mg_isub C dX5_product_7 ?_
  refine mg_callS C (ct_X5_in E _ _ _ _) oX5_98 rfl rfl rfl dX5_product_8 (fun o8 w8 z8 => ?_)
  obtain ⟨rfl, rfl⟩ := z8
  refine mg_v ?_
  refine mg_if_eq C 21 dX5_product_11 (by decide) (fun h11 => ?_) (fun h11 => absurd h11 (fun hh => hh wim))
  refine mg_ldc2 C dX5_product_21 kX5_132 ?_
  exact mg_lret C hQ dX5_product_24 (⟨rfl, trivial⟩)
set_option maxHeartbeats 400000 in
set_option maxRecDepth 100000 in
theorem ct_X5_due (E : En) (ad : Nat → Nat) (tl : va_W) (k : Int32)  : Ct E mX5_due 1 0 0 [.ref (ad 17), .int k] (mw E ad gF aF vF tl) (fun o w => o = some (.long (-2000000000000000000)) ∧ True) := by
  refine Ct.of (by decide) (Nat.le_of_ble_eq_true rfl) (fun X C hQ hin => ?_)
  have C : Cx E X cX5_due 5 RX5 (some .long) 1 40 0 0 := C
  refine mg_iload_n C dX5_due_0 rfl ?_
  refine mg_iconst (v := 0) C dX5_due_1 (by decide) ?_
  refine mg_aload_n C dX5_due_2 rfl ?_
  refine mg_get C inG_X5 fX5_85 (ci := 5) rfl rfl 17 rfl rfl dX5_due_3 ?_
  refine mg_iconst (v := 1) C dX5_due_6 (by decide) ?_
  refine mg_isub C dX5_due_7 ?_
  refine mg_callS C (ct_X5_in E _ _ _ _) oX5_98 rfl rfl rfl dX5_due_8 (fun o8 w8 z8 => ?_)
  obtain ⟨rfl, rfl⟩ := z8
  refine mg_v ?_
  refine mg_if_ne C 18 dX5_due_11 (by decide) (fun h11 => absurd h11 (fun hh => hh wim)) (fun h11 => ?_)
  refine mg_ldc2 C dX5_due_14 kX5_132 ?_
  exact mg_lret C hQ dX5_due_17 (⟨rfl, trivial⟩)
set_option maxHeartbeats 400000 in
set_option maxRecDepth 100000 in
theorem ct_X5_mapped (E : En) (ad : Nat → Nat) (tl : va_W) (i : Int32)  : Ct E mX5_mapped 1 0 0 [.ref (ad 17), .int i] (mw E ad gF aF vF tl) (fun o w => o = some (.int (anMapped i)) ∧ True) := by
  refine Ct.of (by decide) (Nat.le_of_ble_eq_true rfl) (fun X C hQ hin => ?_)
  have C : Cx E X cX5_mapped 2 RX5 (some .int) 1 40 0 0 := C
  refine mg_aload_n C dX5_mapped_0 rfl ?_
  refine mg_callV C (ct_X5_hasTable E _ _ _ _ _) oX5_125 17 rfl rfl rfl rfl rfl dX5_mapped_1 (fun o1 w1 z1 => ?_)
  obtain ⟨rfl, rfl⟩ := z1
  refine mg_v ?_
  refine mg_if_ne C 21 dX5_mapped_4 (by decide) (fun h4 => absurd h4 (fun hh => hh rfl)) (fun h4 => ?_)
  refine mg_iload_n C dX5_mapped_7 rfl ?_
  refine mg_if_ge C 16 dX5_mapped_8 (by decide) (fun h8 => ?_) (fun h8 => ?_)
  · refine mg_bipush (v := (-3)) C dX5_mapped_16 (by decide) ?_
    refine mg_goto C 46 dX5_mapped_18 (by decide) ?_
    exact mg_iret C hQ dX5_mapped_46 (⟨by rw [anMapped, if_pos h8] <;> first | rfl | decide, trivial⟩)
  · refine mg_bipush (v := (-2)) C dX5_mapped_11 (by decide) ?_
    refine mg_goto C 46 dX5_mapped_13 (by decide) ?_
    exact mg_iret C hQ dX5_mapped_46 (⟨by rw [anMapped, if_neg h8] <;> first | rfl | decide, trivial⟩)
set_option maxHeartbeats 400000 in
set_option maxRecDepth 100000 in
theorem ct_X5_look (E : En) (ad : Nat → Nat) (tl : va_W)   : Ct E mX5_look 0 0 0 [.ref (ad 17)] (mw E ad gF aF vF tl) (fun o w => o = some (.int (-3)) ∧ True) := by
  refine Ct.of (by decide) (Nat.le_of_ble_eq_true rfl) (fun X C hQ hin => ?_)
  have C : Cx E X cX5_look 6 RX5 (some .int) 0 0 0 0 := C
  refine mg_aload_n C dX5_look_0 rfl ?_
  refine mg_get C inG_X5 fX5_95 (ci := 5) rfl rfl 17 rfl rfl dX5_look_1 ?_
  refine mg_if_ne C 10 dX5_look_4 (by decide) (fun h4 => absurd h4 (fun hh => hh rfl)) (fun h4 => ?_)
  refine mg_bipush (v := (-3)) C dX5_look_7 (by decide) ?_
  exact mg_iret C hQ dX5_look_9 (⟨rfl, trivial⟩)
set_option maxHeartbeats 400000 in
set_option maxRecDepth 100000 in
theorem ct_X5_actAt (E : En) (ad : Nat → Nat) (tl : va_W) (i u : Int32)  : Ct E mX5_actAt 1 0 0 [.ref (ad 17), .int i, .int u] (mw E ad gF aF vF tl) (fun o w => o = some (.int (anActAt u)) ∧ True) := by
  refine Ct.of (by decide) (Nat.le_of_ble_eq_true rfl) (fun X C hQ hin => ?_)
  have C : Cx E X cX5_actAt 3 RX5 (some .int) 1 40 0 0 := C
  refine mg_iload_n C dX5_actAt_0 rfl ?_
  refine mg_iconst (v := 0) C dX5_actAt_1 (by decide) ?_
  refine mg_iconst (v := 2) C dX5_actAt_2 (by decide) ?_
  refine mg_callS C (ct_X5_in E _ _ _ _) oX5_98 rfl rfl rfl dX5_actAt_3 (fun o3 w3 z3 => ?_)
  obtain ⟨rfl, rfl⟩ := z3
  refine mg_v ?_
  refine mg_if_ne C 12 dX5_actAt_6 (by decide) (fun h6 => ?_) (fun h6 => ?_)
  · refine mg_iload_n C dX5_actAt_12 rfl ?_
    refine mg_iconst (v := 0) C dX5_actAt_13 (by decide) ?_
    refine mg_aload_n C dX5_actAt_14 rfl ?_
    refine mg_get C inG_X5 fX5_160 (ci := 5) rfl rfl 17 rfl rfl dX5_actAt_15 ?_
    refine mg_iconst (v := 1) C dX5_actAt_18 (by decide) ?_
    refine mg_isub C dX5_actAt_19 ?_
    refine mg_callS C (ct_X5_in E _ _ _ _) oX5_98 rfl rfl rfl dX5_actAt_20 (fun o20 w20 z20 => ?_)
    obtain ⟨rfl, rfl⟩ := z20
    refine mg_v ?_
    refine mg_if_ne C 30 dX5_actAt_23 (by decide) (fun h23 => absurd h23 (fun hh => hh wim)) (fun h23 => ?_)
    refine mg_iconst (v := (-1)) C dX5_actAt_26 (by decide) ?_
    refine mg_goto C 75 dX5_actAt_27 (by decide) ?_
    exact mg_iret C hQ dX5_actAt_75 (⟨by rw [anActAt, if_neg h6] <;> first | rfl | decide, trivial⟩)
  · refine mg_bipush (v := (-2)) C dX5_actAt_9 (by decide) ?_
    exact mg_iret C hQ dX5_actAt_11 (⟨by rw [anActAt, if_pos h6] <;> first | rfl | decide, trivial⟩)
set_option maxHeartbeats 400000 in
set_option maxRecDepth 100000 in
theorem ct_X5_where (E : En) (ad : Nat → Nat) (tl : va_W)   : Ct E mX5_where 0 0 0 [.ref (ad 17)] (mw E ad gF aF vF tl) (fun o w => o = some (.int (-1)) ∧ True) := by
  refine Ct.of (by decide) (Nat.le_of_ble_eq_true rfl) (fun X C hQ hin => ?_)
  have C : Cx E X cX5_where 1 RX5 (some .int) 0 0 0 0 := C
  refine mg_aload_n C dX5_where_0 rfl ?_
  refine mg_get C inG_X5 fX5_75 (ci := 5) rfl rfl 17 rfl rfl dX5_where_1 ?_
  exact mg_iret C hQ dX5_where_4 (⟨rfl, trivial⟩)
set_option maxHeartbeats 400000 in
set_option maxRecDepth 100000 in
theorem ct_X5_met (E : En) (ad : Nat → Nat) (tl : va_W)   : Ct E mX5_met 0 0 0 [.ref (ad 17)] (mw E ad gF aF vF tl) (fun o w => o = some (.int (0)) ∧ True) := by
  refine Ct.of (by decide) (Nat.le_of_ble_eq_true rfl) (fun X C hQ hin => ?_)
  have C : Cx E X cX5_met 1 RX5 (some .int) 0 0 0 0 := C
  refine mg_aload_n C dX5_met_0 rfl ?_
  refine mg_get C inG_X5 fX5_149 (ci := 5) rfl rfl 17 rfl rfl dX5_met_1 ?_
  exact mg_iret C hQ dX5_met_4 (⟨rfl, trivial⟩)
