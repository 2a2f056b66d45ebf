def adG (q1 q2 q3 q4 h : Nat) : Nat → Nat := fun i => bif Nat.beq i 14 then q4 else bif Nat.beq i 15 then q3 else bif Nat.beq i 16 then q2 else bif Nat.beq i 17 then q1 else h
set_option maxHeartbeats 400000 in
set_option maxRecDepth 100000 in
theorem ct_X1_init (E : En) (h : Nat) (tl : va_W) : Ct E mX1_init 2 4 584 [.ref h] ((h, .inr (1, [.int 0, .int 0, .int 0, .int 0, .null, .null, .null, .null])) :: tl) (fun o w => o = none ∧ ∃ q1 q2 q3 q4 : Nat, w = gw E (adG q1 q2 q3 q4 h) gF aF tl) := by
  refine Ct.of (by decide) (Nat.le_of_ble_eq_true rfl) (fun X C hQ hin => ?_)
  have C : Cx E X cX1_init 1 RX1 none 2 80 4 584 := C
  refine mg_aload_n C dX1_init_0 rfl ?_
  refine mg_objInit C oX1_3 (by decide) (by decide) dX1_init_1 ?_
  refine mg_aload_n C dX1_init_4 rfl ?_
  refine mg_sipush (v := 192) C dX1_init_5 (by decide) ?_
  refine mg_newi C aI_ok (N := 192) (by decide) (by decide) (by decide) (by decide) (by decide) dX1_init_8 (fun q8 => ?_)
  refine mg_putF C inG_X1 fX1_9 (ci := 1) rfl rfl tyX1 tyX1_ok nmX1 rfl hin rfl 1 rfl rfl rfl rfl dX1_init_10 (ws' := ((q8, .inl (E.2.2.1, 192, .inl (fun _ => 0))) :: (h, .inr (1, [.int 0, .int 0, .int 0, .int 0, .ref q8, .null, .null, .null])) :: tl)) rfl ?_
  refine mg_aload_n C dX1_init_13 rfl ?_
  refine mg_sipush (v := 192) C dX1_init_14 (by decide) ?_
  refine mg_newi C aI_ok (N := 192) (by decide) (by decide) (by decide) (by decide) (by decide) dX1_init_17 (fun q17 => ?_)
  refine mg_putF C inG_X1 fX1_15 (ci := 1) rfl rfl tyX1 tyX1_ok nmX1 rfl hin rfl 2 rfl rfl rfl rfl dX1_init_19 (ws' := ((q17, .inl (E.2.2.1, 192, .inl (fun _ => 0))) :: (q8, .inl (E.2.2.1, 192, .inl (fun _ => 0))) :: (h, .inr (1, [.int 0, .int 0, .int 0, .int 0, .ref q8, .ref q17, .null, .null])) :: tl)) rfl ?_
  refine mg_aload_n C dX1_init_22 rfl ?_
  refine mg_sipush (v := 192) C dX1_init_23 (by decide) ?_
  refine mg_newi C aI_ok (N := 192) (by decide) (by decide) (by decide) (by decide) (by decide) dX1_init_26 (fun q26 => ?_)
  refine mg_putF C inG_X1 fX1_18 (ci := 1) rfl rfl tyX1 tyX1_ok nmX1 rfl hin rfl 3 rfl rfl rfl rfl dX1_init_28 (ws' := ((q26, .inl (E.2.2.1, 192, .inl (fun _ => 0))) :: (q17, .inl (E.2.2.1, 192, .inl (fun _ => 0))) :: (q8, .inl (E.2.2.1, 192, .inl (fun _ => 0))) :: (h, .inr (1, [.int 0, .int 0, .int 0, .int 0, .ref q8, .ref q17, .ref q26, .null])) :: tl)) rfl ?_
  refine mg_aload_n C dX1_init_31 rfl ?_
  refine mg_bipush (v := 8) C dX1_init_32 (by decide) ?_
  refine mg_newi C aI_ok (N := 8) (by decide) (by decide) (by decide) (by decide) (by decide) dX1_init_34 (fun q34 => ?_)
  refine mg_putF C inG_X1 fX1_21 (ci := 1) rfl rfl tyX1 tyX1_ok nmX1 rfl hin rfl 4 rfl rfl rfl rfl dX1_init_36 (ws' := ((q34, .inl (E.2.2.1, 8, .inl (fun _ => 0))) :: (q26, .inl (E.2.2.1, 192, .inl (fun _ => 0))) :: (q17, .inl (E.2.2.1, 192, .inl (fun _ => 0))) :: (q8, .inl (E.2.2.1, 192, .inl (fun _ => 0))) :: (h, .inr (1, [.int 0, .int 0, .int 0, .int 0, .ref q8, .ref q17, .ref q26, .ref q34])) :: tl)) rfl ?_
  refine mg_aload_n C dX1_init_39 rfl ?_
  refine mg_iconst (v := 1) C dX1_init_40 (by decide) ?_
  refine mg_iconst (v := 1) C dX1_init_41 (by decide) ?_
  refine mg_iconst (v := 1) C dX1_init_42 (by decide) ?_
  refine mg_ws (ws' := gw E (adG q8 q17 q26 q34 h) (fun _ => 0) (fun _ _ => 0) tl) rfl ?_
  refine mg_callV C (cg_X1_renew E _ _ _ _ _ _ _) oX1_24 4 rfl rfl rfl rfl rfl dX1_init_43 (fun o43 w43 z43 => ?_)
  obtain ⟨rfl, rfl⟩ := z43
  refine mg_v0 ?_
  exact mg_vret C hQ dX1_init_46 (⟨rfl, q8, q17, q26, q34, rfl⟩)
def sw (E : En) (q1 q2 q3 q4 q5 h gr : Nat) (tl : va_W) : va_W :=
  (q5, .inl (E.2.2.1, 256, .inl (fun _ => 0))) :: (q4, .inl (E.2.2.1, 64, .inl (fun _ => 0))) :: (q3, .inl (E.2.2.1, 24, .inl (fun _ => 0))) :: (q2, .inl (E.2.2.1, 8, .inl (fun _ => 0))) :: (q1, .inl (E.2.2.1, 96, .inl (fun _ => 0))) ::
  (h, .inr (3, [.ref gr, .int 0, .int 0, .int 0, .int 0, .int 0, .ref q1, .ref q2, .ref q3, .ref q4, .ref q5])) :: tl
def kw (E : En) (q1 q2 h gr : Nat) (tl : va_W) : va_W :=
  (q2, .inl (E.2.2.1, 8, .inl (fun _ => 0))) :: (q1, .inl (E.2.2.1, 8, .inl (fun _ => 0))) :: (h, .inr (0, [.ref gr, .int 0, .ref q1, .ref q2])) :: tl
def ew (E : En) (q1 q2 q3 q4 h : Nat) (tl : va_W) : va_W :=
  (q4, .inl (E.2.2.1, 16, .inl (fun _ => 0))) :: (q3, .inl (E.2.2.1, 5, .inl (fun _ => 0))) :: (q2, .inl (E.2.2.1, 2048, .inl (fun _ => 0))) :: (q1, .inl (E.2.2.2, 8000, .inr (.inl (fun _ => 0)))) ::
  (h, .inr (2, [.ref q1, .ref q2, .ref q3, .int 0, .int 0, .int 0, .int 0, .int 0, .ref q4, .int 0, .int (-1)])) :: tl
set_option maxHeartbeats 400000 in
set_option maxRecDepth 100000 in
theorem ct_X3_init (E : En) (h gr : Nat) (tl : va_W) : Ct E mX3_init 1 5 448 [.ref h, .ref gr] ((h, .inr (3, [.null, .int 0, .int 0, .int 0, .int 0, .int 0, .null, .null, .null, .null, .null])) :: tl) (fun o w => o = none ∧ ∃ q1 q2 q3 q4 q5 : Nat, w = sw E q1 q2 q3 q4 q5 h gr tl) := by
  refine Ct.of (by decide) (Nat.le_of_ble_eq_true rfl) (fun X C hQ hin => ?_)
  have C : Cx E X cX3_init 2 RX3 none 1 40 5 448 := C
  refine mg_aload_n C dX3_init_0 rfl ?_
  refine mg_objInit C oX3_3 (by decide) (by decide) dX3_init_1 ?_
  refine mg_aload_n C dX3_init_4 rfl ?_
  refine mg_bipush (v := 96) C dX3_init_5 (by decide) ?_
  refine mg_newi C aI_ok (N := 96) (by decide) (by decide) (by decide) (by decide) (by decide) dX3_init_7 (fun q7 => ?_)
  refine mg_putF C inG_X3 fX3_9 (ci := 3) rfl rfl tyX3 tyX3_ok nmX3 rfl hin rfl 1 rfl rfl rfl rfl dX3_init_9 (ws' := ((q7, .inl (E.2.2.1, 96, .inl (fun _ => 0))) :: (h, .inr (3, [.null, .int 0, .int 0, .int 0, .int 0, .int 0, .ref q7, .null, .null, .null, .null])) :: tl)) rfl ?_
  refine mg_aload_n C dX3_init_12 rfl ?_
  refine mg_bipush (v := 8) C dX3_init_13 (by decide) ?_
  refine mg_newi C aI_ok (N := 8) (by decide) (by decide) (by decide) (by decide) (by decide) dX3_init_15 (fun q15 => ?_)
  refine mg_putF C inG_X3 fX3_15 (ci := 3) rfl rfl tyX3 tyX3_ok nmX3 rfl hin rfl 2 rfl rfl rfl rfl dX3_init_17 (ws' := ((q15, .inl (E.2.2.1, 8, .inl (fun _ => 0))) :: (q7, .inl (E.2.2.1, 96, .inl (fun _ => 0))) :: (h, .inr (3, [.null, .int 0, .int 0, .int 0, .int 0, .int 0, .ref q7, .ref q15, .null, .null, .null])) :: tl)) rfl ?_
  refine mg_aload_n C dX3_init_20 rfl ?_
  refine mg_bipush (v := 24) C dX3_init_21 (by decide) ?_
  refine mg_newi C aI_ok (N := 24) (by decide) (by decide) (by decide) (by decide) (by decide) dX3_init_23 (fun q23 => ?_)
  refine mg_putF C inG_X3 fX3_18 (ci := 3) rfl rfl tyX3 tyX3_ok nmX3 rfl hin rfl 3 rfl rfl rfl rfl dX3_init_25 (ws' := ((q23, .inl (E.2.2.1, 24, .inl (fun _ => 0))) :: (q15, .inl (E.2.2.1, 8, .inl (fun _ => 0))) :: (q7, .inl (E.2.2.1, 96, .inl (fun _ => 0))) :: (h, .inr (3, [.null, .int 0, .int 0, .int 0, .int 0, .int 0, .ref q7, .ref q15, .ref q23, .null, .null])) :: tl)) rfl ?_
  refine mg_aload_n C dX3_init_28 rfl ?_
  refine mg_bipush (v := 64) C dX3_init_29 (by decide) ?_
  refine mg_newi C aI_ok (N := 64) (by decide) (by decide) (by decide) (by decide) (by decide) dX3_init_31 (fun q31 => ?_)
  refine mg_putF C inG_X3 fX3_21 (ci := 3) rfl rfl tyX3 tyX3_ok nmX3 rfl hin rfl 4 rfl rfl rfl rfl dX3_init_33 (ws' := ((q31, .inl (E.2.2.1, 64, .inl (fun _ => 0))) :: (q23, .inl (E.2.2.1, 24, .inl (fun _ => 0))) :: (q15, .inl (E.2.2.1, 8, .inl (fun _ => 0))) :: (q7, .inl (E.2.2.1, 96, .inl (fun _ => 0))) :: (h, .inr (3, [.null, .int 0, .int 0, .int 0, .int 0, .int 0, .ref q7, .ref q15, .ref q23, .ref q31, .null])) :: tl)) rfl ?_
  refine mg_aload_n C dX3_init_36 rfl ?_
  refine mg_sipush (v := 256) C dX3_init_37 (by decide) ?_
  refine mg_newi C aI_ok (N := 256) (by decide) (by decide) (by decide) (by decide) (by decide) dX3_init_40 (fun q40 => ?_)
  refine mg_putF C inG_X3 fX3_24 (ci := 3) rfl rfl tyX3 tyX3_ok nmX3 rfl hin rfl 5 rfl rfl rfl rfl dX3_init_42 (ws' := ((q40, .inl (E.2.2.1, 256, .inl (fun _ => 0))) :: (q31, .inl (E.2.2.1, 64, .inl (fun _ => 0))) :: (q23, .inl (E.2.2.1, 24, .inl (fun _ => 0))) :: (q15, .inl (E.2.2.1, 8, .inl (fun _ => 0))) :: (q7, .inl (E.2.2.1, 96, .inl (fun _ => 0))) :: (h, .inr (3, [.null, .int 0, .int 0, .int 0, .int 0, .int 0, .ref q7, .ref q15, .ref q23, .ref q31, .ref q40])) :: tl)) rfl ?_
  refine mg_aload_n C dX3_init_45 rfl ?_
  refine mg_aload_n C dX3_init_46 rfl ?_
  refine mg_putF C inG_X3 fX3_27 (ci := 3) rfl rfl tyX3 tyX3_ok nmX3 rfl hin rfl 5 rfl rfl rfl rfl dX3_init_47 (ws' := ((q40, .inl (E.2.2.1, 256, .inl (fun _ => 0))) :: (q31, .inl (E.2.2.1, 64, .inl (fun _ => 0))) :: (q23, .inl (E.2.2.1, 24, .inl (fun _ => 0))) :: (q15, .inl (E.2.2.1, 8, .inl (fun _ => 0))) :: (q7, .inl (E.2.2.1, 96, .inl (fun _ => 0))) :: (h, .inr (3, [.ref gr, .int 0, .int 0, .int 0, .int 0, .int 0, .ref q7, .ref q15, .ref q23, .ref q31, .ref q40])) :: tl)) rfl ?_
  exact mg_vret C hQ dX3_init_50 (⟨rfl, q7, q15, q23, q31, q40, rfl⟩)
set_option maxHeartbeats 400000 in
set_option maxRecDepth 100000 in
theorem ct_X0_init (E : En) (h gr : Nat) (tl : va_W) : Ct E mX0_init 1 2 16 [.ref h, .ref gr] ((h, .inr (0, [.null, .int 0, .null, .null])) :: tl) (fun o w => o = none ∧ ∃ q1 q2 : Nat, w = kw E q1 q2 h gr tl) := by
  refine Ct.of (by decide) (Nat.le_of_ble_eq_true rfl) (fun X C hQ hin => ?_)
  have C : Cx E X cX0_init 2 RX0 none 1 40 2 16 := C
  refine mg_aload_n C dX0_init_0 rfl ?_
  refine mg_objInit C oX0_3 (by decide) (by decide) dX0_init_1 ?_
  refine mg_aload_n C dX0_init_4 rfl ?_
  refine mg_bipush (v := 8) C dX0_init_5 (by decide) ?_
  refine mg_newi C aI_ok (N := 8) (by decide) (by decide) (by decide) (by decide) (by decide) dX0_init_7 (fun q7 => ?_)
  refine mg_putF C inG_X0 fX0_9 (ci := 0) rfl rfl tyX0 tyX0_ok nmX0 rfl hin rfl 1 rfl rfl rfl rfl dX0_init_9 (ws' := ((q7, .inl (E.2.2.1, 8, .inl (fun _ => 0))) :: (h, .inr (0, [.null, .int 0, .ref q7, .null])) :: tl)) rfl ?_
  refine mg_aload_n C dX0_init_12 rfl ?_
  refine mg_bipush (v := 8) C dX0_init_13 (by decide) ?_
  refine mg_newi C aI_ok (N := 8) (by decide) (by decide) (by decide) (by decide) (by decide) dX0_init_15 (fun q15 => ?_)
  refine mg_putF C inG_X0 fX0_15 (ci := 0) rfl rfl tyX0 tyX0_ok nmX0 rfl hin rfl 2 rfl rfl rfl rfl dX0_init_17 (ws' := ((q15, .inl (E.2.2.1, 8, .inl (fun _ => 0))) :: (q7, .inl (E.2.2.1, 8, .inl (fun _ => 0))) :: (h, .inr (0, [.null, .int 0, .ref q7, .ref q15])) :: tl)) rfl ?_
  refine mg_aload_n C dX0_init_20 rfl ?_
  refine mg_aload_n C dX0_init_21 rfl ?_
  refine mg_putF C inG_X0 fX0_18 (ci := 0) rfl rfl tyX0 tyX0_ok nmX0 rfl hin rfl 2 rfl rfl rfl rfl dX0_init_22 (ws' := ((q15, .inl (E.2.2.1, 8, .inl (fun _ => 0))) :: (q7, .inl (E.2.2.1, 8, .inl (fun _ => 0))) :: (h, .inr (0, [.ref gr, .int 0, .ref q7, .ref q15])) :: tl)) rfl ?_
  exact mg_vret C hQ dX0_init_25 (⟨rfl, q7, q15, rfl⟩)
set_option maxHeartbeats 400000 in
set_option maxRecDepth 100000 in
theorem ct_X2_init (E : En) (h : Nat) (tl : va_W) : Ct E mX2_init 1 4 10069 [.ref h] ((h, .inr (2, [.null, .null, .null, .int 0, .int 0, .int 0, .int 0, .int 0, .null, .int 0, .int 0])) :: tl) (fun o w => o = none ∧ ∃ q1 q2 q3 q4 : Nat, w = ew E q1 q2 q3 q4 h tl) := by
  refine Ct.of (by decide) (Nat.le_of_ble_eq_true rfl) (fun X C hQ hin => ?_)
  have C : Cx E X cX2_init 1 RX2 none 1 40 4 10069 := C
  refine mg_aload_n C dX2_init_0 rfl ?_
  refine mg_objInit C oX2_3 (by decide) (by decide) dX2_init_1 ?_
  refine mg_aload_n C dX2_init_4 rfl ?_
  refine mg_sipush (v := 8000) C dX2_init_5 (by decide) ?_
  refine mg_newl C aJ_ok (N := 8000) (by decide) (by decide) (by decide) (by decide) (by decide) dX2_init_8 (fun q8 => ?_)
  refine mg_putF C inG_X2 fX2_9 (ci := 2) rfl rfl tyX2 tyX2_ok nmX2 rfl hin rfl 1 rfl rfl rfl rfl dX2_init_10 (ws' := ((q8, .inl (E.2.2.2, 8000, .inr (.inl (fun _ => 0)))) :: (h, .inr (2, [.ref q8, .null, .null, .int 0, .int 0, .int 0, .int 0, .int 0, .null, .int 0, .int 0])) :: tl)) rfl ?_
  refine mg_aload_n C dX2_init_13 rfl ?_
  refine mg_sipush (v := 2048) C dX2_init_14 (by decide) ?_
  refine mg_newi C aI_ok (N := 2048) (by decide) (by decide) (by decide) (by decide) (by decide) dX2_init_17 (fun q17 => ?_)
  refine mg_putF C inG_X2 fX2_15 (ci := 2) rfl rfl tyX2 tyX2_ok nmX2 rfl hin rfl 2 rfl rfl rfl rfl dX2_init_19 (ws' := ((q17, .inl (E.2.2.1, 2048, .inl (fun _ => 0))) :: (q8, .inl (E.2.2.2, 8000, .inr (.inl (fun _ => 0)))) :: (h, .inr (2, [.ref q8, .ref q17, .null, .int 0, .int 0, .int 0, .int 0, .int 0, .null, .int 0, .int 0])) :: tl)) rfl ?_
  refine mg_aload_n C dX2_init_22 rfl ?_
  refine mg_iconst (v := 5) C dX2_init_23 (by decide) ?_
  refine mg_newi C aI_ok (N := 5) (by decide) (by decide) (by decide) (by decide) (by decide) dX2_init_24 (fun q24 => ?_)
  refine mg_putF C inG_X2 fX2_19 (ci := 2) rfl rfl tyX2 tyX2_ok nmX2 rfl hin rfl 3 rfl rfl rfl rfl dX2_init_26 (ws' := ((q24, .inl (E.2.2.1, 5, .inl (fun _ => 0))) :: (q17, .inl (E.2.2.1, 2048, .inl (fun _ => 0))) :: (q8, .inl (E.2.2.2, 8000, .inr (.inl (fun _ => 0)))) :: (h, .inr (2, [.ref q8, .ref q17, .ref q24, .int 0, .int 0, .int 0, .int 0, .int 0, .null, .int 0, .int 0])) :: tl)) rfl ?_
  refine mg_aload_n C dX2_init_29 rfl ?_
  refine mg_bipush (v := 16) C dX2_init_30 (by decide) ?_
  refine mg_newi C aI_ok (N := 16) (by decide) (by decide) (by decide) (by decide) (by decide) dX2_init_32 (fun q32 => ?_)
  refine mg_put C inG_X2 fX2_22 (ci := 2) rfl rfl tyX2 tyX2_ok nmX2 rfl 4 rfl rfl rfl rfl dX2_init_34 (ws' := ((q32, .inl (E.2.2.1, 16, .inl (fun _ => 0))) :: (q24, .inl (E.2.2.1, 5, .inl (fun _ => 0))) :: (q17, .inl (E.2.2.1, 2048, .inl (fun _ => 0))) :: (q8, .inl (E.2.2.2, 8000, .inr (.inl (fun _ => 0)))) :: (h, .inr (2, [.ref q8, .ref q17, .ref q24, .int 0, .int 0, .int 0, .int 0, .int 0, .ref q32, .int 0, .int 0])) :: tl)) rfl ?_
  refine mg_aload_n C dX2_init_37 rfl ?_
  refine mg_iconst (v := (-1)) C dX2_init_38 (by decide) ?_
  refine mg_put C inG_X2 fX2_25 (ci := 2) rfl rfl tyX2 tyX2_ok nmX2 rfl 4 rfl rfl rfl rfl dX2_init_39 (ws' := ((q32, .inl (E.2.2.1, 16, .inl (fun _ => 0))) :: (q24, .inl (E.2.2.1, 5, .inl (fun _ => 0))) :: (q17, .inl (E.2.2.1, 2048, .inl (fun _ => 0))) :: (q8, .inl (E.2.2.2, 8000, .inr (.inl (fun _ => 0)))) :: (h, .inr (2, [.ref q8, .ref q17, .ref q24, .int 0, .int 0, .int 0, .int 0, .int 0, .ref q32, .int 0, .int (-1)])) :: tl)) rfl ?_
  exact mg_vret C hQ dX2_init_42 (⟨rfl, q8, q17, q24, q32, rfl⟩)
def adL (l : List Nat) : Nat → Nat := fun i => l.getD i 0
set_option maxHeartbeats 400000 in
set_option maxRecDepth 100000 in
theorem ct_X4_init (E : En) (h : Nat) (tl : va_W) : Ct E mX4_init 3 19 11151 [.ref h] ((h, .inr (4, [.null, .null, .null, .null])) :: tl) (fun o w => o = none ∧ ∃ l : List Nat, adL l 19 = h ∧ w = cw E (adL l) 16 gF aF vF tl) := by
  refine Ct.of (by decide) (Nat.le_of_ble_eq_true rfl) (fun X C hQ hin => ?_)
  have C : Cx E X cX4_init 1 RX4 none 3 120 19 11151 := C
  refine mg_aload_n C dX4_init_0 rfl ?_
  refine mg_objInit C oX4_1 (by decide) (by decide) dX4_init_1 ?_
  refine mg_aload_n C dX4_init_4 rfl ?_
  refine mg_new C inG_X1 tyX1 tyX1_ok nX4_7 (ci := 1) rfl (fs := [.int 0, .int 0, .int 0, .int 0, .null, .null, .null, .null]) rfl (by decide) (by decide) dX4_init_5 (fun q5 => ?_)
  refine mg_dup C dX4_init_8 rfl ?_
  refine mg_callIN C (ct_X1_init E _ _) oX4_9 rfl rfl rfl rfl dX4_init_9 (fun o9 w9 z9 => ?_)
  obtain ⟨rfl, qg1, qg2, qg3, qg4, rfl⟩ := z9
  refine mg_ws (ws' := ((qg4, .inl (E.2.2.1, 8, .inl (aF 3))) :: (qg3, .inl (E.2.2.1, 192, .inl (aF 2))) :: (qg2, .inl (E.2.2.1, 192, .inl (aF 1))) :: (qg1, .inl (E.2.2.1, 192, .inl (aF 0))) :: (q5, .inr (1, [.int (gF 0), .int (gF 1), .int (gF 2), .int (gF 3), .ref qg1, .ref qg2, .ref qg3, .ref qg4])) :: (h, .inr (4, [.null, .null, .null, .null])) :: tl)) rfl ?_
  refine mg_v0 ?_
  refine mg_putF C inG_X4 fX4_10 (ci := 4) rfl rfl tyX4 tyX4_ok nmX4 rfl hin rfl 5 rfl rfl rfl rfl dX4_init_12 (ws' := ((qg4, .inl (E.2.2.1, 8, .inl (aF 3))) :: (qg3, .inl (E.2.2.1, 192, .inl (aF 2))) :: (qg2, .inl (E.2.2.1, 192, .inl (aF 1))) :: (qg1, .inl (E.2.2.1, 192, .inl (aF 0))) :: (q5, .inr (1, [.int (gF 0), .int (gF 1), .int (gF 2), .int (gF 3), .ref qg1, .ref qg2, .ref qg3, .ref qg4])) :: (h, .inr (4, [.ref q5, .null, .null, .null])) :: tl)) rfl ?_
  refine mg_aload_n C dX4_init_15 rfl ?_
  refine mg_new C inG_X3 tyX3 tyX3_ok nX4_16 (ci := 3) rfl (fs := [.null, .int 0, .int 0, .int 0, .int 0, .int 0, .null, .null, .null, .null, .null]) rfl (by decide) (by decide) dX4_init_16 (fun q16 => ?_)
  refine mg_dup C dX4_init_19 rfl ?_
  refine mg_aload_n C dX4_init_20 rfl ?_
  refine mg_get C inG_X4 fX4_10 (ci := 4) rfl rfl 6 rfl rfl dX4_init_21 ?_
  refine mg_callIN C (ct_X3_init E _ _ _) oX4_18 rfl rfl rfl rfl dX4_init_24 (fun o24 w24 z24 => ?_)
  obtain ⟨rfl, qs1, qs2, qs3, qs4, qs5, rfl⟩ := z24
  refine mg_ws (ws' := ((qs5, .inl (E.2.2.1, 256, .inl (fun _ => 0))) :: (qs4, .inl (E.2.2.1, 64, .inl (fun _ => 0))) :: (qs3, .inl (E.2.2.1, 24, .inl (fun _ => 0))) :: (qs2, .inl (E.2.2.1, 8, .inl (fun _ => 0))) :: (qs1, .inl (E.2.2.1, 96, .inl (fun _ => 0))) :: (q16, .inr (3, [.ref q5, .int 0, .int 0, .int 0, .int 0, .int 0, .ref qs1, .ref qs2, .ref qs3, .ref qs4, .ref qs5])) :: (qg4, .inl (E.2.2.1, 8, .inl (aF 3))) :: (qg3, .inl (E.2.2.1, 192, .inl (aF 2))) :: (qg2, .inl (E.2.2.1, 192, .inl (aF 1))) :: (qg1, .inl (E.2.2.1, 192, .inl (aF 0))) :: (q5, .inr (1, [.int (gF 0), .int (gF 1), .int (gF 2), .int (gF 3), .ref qg1, .ref qg2, .ref qg3, .ref qg4])) :: (h, .inr (4, [.ref q5, .null, .null, .null])) :: tl)) rfl ?_
  refine mg_v0 ?_
  refine mg_putF C inG_X4 fX4_21 (ci := 4) rfl rfl tyX4 tyX4_ok nmX4 rfl hin rfl 11 rfl rfl rfl rfl dX4_init_27 (ws' := ((qs5, .inl (E.2.2.1, 256, .inl (fun _ => 0))) :: (qs4, .inl (E.2.2.1, 64, .inl (fun _ => 0))) :: (qs3, .inl (E.2.2.1, 24, .inl (fun _ => 0))) :: (qs2, .inl (E.2.2.1, 8, .inl (fun _ => 0))) :: (qs1, .inl (E.2.2.1, 96, .inl (fun _ => 0))) :: (q16, .inr (3, [.ref q5, .int 0, .int 0, .int 0, .int 0, .int 0, .ref qs1, .ref qs2, .ref qs3, .ref qs4, .ref qs5])) :: (qg4, .inl (E.2.2.1, 8, .inl (aF 3))) :: (qg3, .inl (E.2.2.1, 192, .inl (aF 2))) :: (qg2, .inl (E.2.2.1, 192, .inl (aF 1))) :: (qg1, .inl (E.2.2.1, 192, .inl (aF 0))) :: (q5, .inr (1, [.int (gF 0), .int (gF 1), .int (gF 2), .int (gF 3), .ref qg1, .ref qg2, .ref qg3, .ref qg4])) :: (h, .inr (4, [.ref q5, .ref q16, .null, .null])) :: tl)) rfl ?_
  refine mg_aload_n C dX4_init_30 rfl ?_
  refine mg_new C inG_X0 tyX0 tyX0_ok nX4_25 (ci := 0) rfl (fs := [.null, .int 0, .null, .null]) rfl (by decide) (by decide) dX4_init_31 (fun q31 => ?_)
  refine mg_dup C dX4_init_34 rfl ?_
  refine mg_aload_n C dX4_init_35 rfl ?_
  refine mg_get C inG_X4 fX4_10 (ci := 4) rfl rfl 12 rfl rfl dX4_init_36 ?_
  refine mg_callIN C (ct_X0_init E _ _ _) oX4_27 rfl rfl rfl rfl dX4_init_39 (fun o39 w39 z39 => ?_)
  obtain ⟨rfl, qk1, qk2, rfl⟩ := z39
  refine mg_ws (ws' := ((qk2, .inl (E.2.2.1, 8, .inl (fun _ => 0))) :: (qk1, .inl (E.2.2.1, 8, .inl (fun _ => 0))) :: (q31, .inr (0, [.ref q5, .int 0, .ref qk1, .ref qk2])) :: (qs5, .inl (E.2.2.1, 256, .inl (fun _ => 0))) :: (qs4, .inl (E.2.2.1, 64, .inl (fun _ => 0))) :: (qs3, .inl (E.2.2.1, 24, .inl (fun _ => 0))) :: (qs2, .inl (E.2.2.1, 8, .inl (fun _ => 0))) :: (qs1, .inl (E.2.2.1, 96, .inl (fun _ => 0))) :: (q16, .inr (3, [.ref q5, .int 0, .int 0, .int 0, .int 0, .int 0, .ref qs1, .ref qs2, .ref qs3, .ref qs4, .ref qs5])) :: (qg4, .inl (E.2.2.1, 8, .inl (aF 3))) :: (qg3, .inl (E.2.2.1, 192, .inl (aF 2))) :: (qg2, .inl (E.2.2.1, 192, .inl (aF 1))) :: (qg1, .inl (E.2.2.1, 192, .inl (aF 0))) :: (q5, .inr (1, [.int (gF 0), .int (gF 1), .int (gF 2), .int (gF 3), .ref qg1, .ref qg2, .ref qg3, .ref qg4])) :: (h, .inr (4, [.ref q5, .ref q16, .null, .null])) :: tl)) rfl ?_
  refine mg_v0 ?_
  refine mg_putF C inG_X4 fX4_28 (ci := 4) rfl rfl tyX4 tyX4_ok nmX4 rfl hin rfl 14 rfl rfl rfl rfl dX4_init_42 (ws' := ((qk2, .inl (E.2.2.1, 8, .inl (fun _ => 0))) :: (qk1, .inl (E.2.2.1, 8, .inl (fun _ => 0))) :: (q31, .inr (0, [.ref q5, .int 0, .ref qk1, .ref qk2])) :: (qs5, .inl (E.2.2.1, 256, .inl (fun _ => 0))) :: (qs4, .inl (E.2.2.1, 64, .inl (fun _ => 0))) :: (qs3, .inl (E.2.2.1, 24, .inl (fun _ => 0))) :: (qs2, .inl (E.2.2.1, 8, .inl (fun _ => 0))) :: (qs1, .inl (E.2.2.1, 96, .inl (fun _ => 0))) :: (q16, .inr (3, [.ref q5, .int 0, .int 0, .int 0, .int 0, .int 0, .ref qs1, .ref qs2, .ref qs3, .ref qs4, .ref qs5])) :: (qg4, .inl (E.2.2.1, 8, .inl (aF 3))) :: (qg3, .inl (E.2.2.1, 192, .inl (aF 2))) :: (qg2, .inl (E.2.2.1, 192, .inl (aF 1))) :: (qg1, .inl (E.2.2.1, 192, .inl (aF 0))) :: (q5, .inr (1, [.int (gF 0), .int (gF 1), .int (gF 2), .int (gF 3), .ref qg1, .ref qg2, .ref qg3, .ref qg4])) :: (h, .inr (4, [.ref q5, .ref q16, .ref q31, .null])) :: tl)) rfl ?_
  refine mg_aload_n C dX4_init_45 rfl ?_
  refine mg_new C inG_X2 tyX2 tyX2_ok nX4_32 (ci := 2) rfl (fs := [.null, .null, .null, .int 0, .int 0, .int 0, .int 0, .int 0, .null, .int 0, .int 0]) rfl (by decide) (by decide) dX4_init_46 (fun q46 => ?_)
  refine mg_dup C dX4_init_49 rfl ?_
  refine mg_callIN C (ct_X2_init E _ _) oX4_34 rfl rfl rfl rfl dX4_init_50 (fun o50 w50 z50 => ?_)
  obtain ⟨rfl, qe1, qe2, qe3, qe4, rfl⟩ := z50
  refine mg_ws (ws' := ((qe4, .inl (E.2.2.1, 16, .inl (fun _ => 0))) :: (qe3, .inl (E.2.2.1, 5, .inl (fun _ => 0))) :: (qe2, .inl (E.2.2.1, 2048, .inl (fun _ => 0))) :: (qe1, .inl (E.2.2.2, 8000, .inr (.inl (fun _ => 0)))) :: (q46, .inr (2, [.ref qe1, .ref qe2, .ref qe3, .int 0, .int 0, .int 0, .int 0, .int 0, .ref qe4, .int 0, .int (-1)])) :: (qk2, .inl (E.2.2.1, 8, .inl (fun _ => 0))) :: (qk1, .inl (E.2.2.1, 8, .inl (fun _ => 0))) :: (q31, .inr (0, [.ref q5, .int 0, .ref qk1, .ref qk2])) :: (qs5, .inl (E.2.2.1, 256, .inl (fun _ => 0))) :: (qs4, .inl (E.2.2.1, 64, .inl (fun _ => 0))) :: (qs3, .inl (E.2.2.1, 24, .inl (fun _ => 0))) :: (qs2, .inl (E.2.2.1, 8, .inl (fun _ => 0))) :: (qs1, .inl (E.2.2.1, 96, .inl (fun _ => 0))) :: (q16, .inr (3, [.ref q5, .int 0, .int 0, .int 0, .int 0, .int 0, .ref qs1, .ref qs2, .ref qs3, .ref qs4, .ref qs5])) :: (qg4, .inl (E.2.2.1, 8, .inl (aF 3))) :: (qg3, .inl (E.2.2.1, 192, .inl (aF 2))) :: (qg2, .inl (E.2.2.1, 192, .inl (aF 1))) :: (qg1, .inl (E.2.2.1, 192, .inl (aF 0))) :: (q5, .inr (1, [.int (gF 0), .int (gF 1), .int (gF 2), .int (gF 3), .ref qg1, .ref qg2, .ref qg3, .ref qg4])) :: (h, .inr (4, [.ref q5, .ref q16, .ref q31, .null])) :: tl)) rfl ?_
  refine mg_v0 ?_
  refine mg_putF C inG_X4 fX4_35 (ci := 4) rfl rfl tyX4 tyX4_ok nmX4 rfl hin rfl 19 rfl rfl rfl rfl dX4_init_53 (ws' := ((qe4, .inl (E.2.2.1, 16, .inl (fun _ => 0))) :: (qe3, .inl (E.2.2.1, 5, .inl (fun _ => 0))) :: (qe2, .inl (E.2.2.1, 2048, .inl (fun _ => 0))) :: (qe1, .inl (E.2.2.2, 8000, .inr (.inl (fun _ => 0)))) :: (q46, .inr (2, [.ref qe1, .ref qe2, .ref qe3, .int 0, .int 0, .int 0, .int 0, .int 0, .ref qe4, .int 0, .int (-1)])) :: (qk2, .inl (E.2.2.1, 8, .inl (fun _ => 0))) :: (qk1, .inl (E.2.2.1, 8, .inl (fun _ => 0))) :: (q31, .inr (0, [.ref q5, .int 0, .ref qk1, .ref qk2])) :: (qs5, .inl (E.2.2.1, 256, .inl (fun _ => 0))) :: (qs4, .inl (E.2.2.1, 64, .inl (fun _ => 0))) :: (qs3, .inl (E.2.2.1, 24, .inl (fun _ => 0))) :: (qs2, .inl (E.2.2.1, 8, .inl (fun _ => 0))) :: (qs1, .inl (E.2.2.1, 96, .inl (fun _ => 0))) :: (q16, .inr (3, [.ref q5, .int 0, .int 0, .int 0, .int 0, .int 0, .ref qs1, .ref qs2, .ref qs3, .ref qs4, .ref qs5])) :: (qg4, .inl (E.2.2.1, 8, .inl (aF 3))) :: (qg3, .inl (E.2.2.1, 192, .inl (aF 2))) :: (qg2, .inl (E.2.2.1, 192, .inl (aF 1))) :: (qg1, .inl (E.2.2.1, 192, .inl (aF 0))) :: (q5, .inr (1, [.int (gF 0), .int (gF 1), .int (gF 2), .int (gF 3), .ref qg1, .ref qg2, .ref qg3, .ref qg4])) :: (h, .inr (4, [.ref q5, .ref q16, .ref q31, .ref q46])) :: tl)) rfl ?_
  exact mg_vret C hQ dX4_init_56 (⟨rfl, [qe4, qe3, qe2, qe1, q46, qk2, qk1, q31, qs5, qs4, qs3, qs2, qs1, q16, qg4, qg3, qg2, qg1, q5, h], rfl, rfl⟩)
set_option maxHeartbeats 400000 in
set_option maxRecDepth 100000 in
theorem ct_X5_init (E : En) (h : Nat) (tl : va_W) : Ct E mX5_init 1 17 49177 [.ref h] ((h, .inr (5, [.int 0, .int 0, .int 0, .null, .null, .null, .null, .int 0, .int 0, .int 0, .int 0, .int 0, .int 0, .null, .null, .null, .null, .null, .null, .null, .null, .null, .null, .null, .null, .int 0, .int 0, .null, .int 0])) :: tl) (fun o w => o = none ∧ ∃ l : List Nat, adL l 17 = h ∧ w = mw E (adL l) gF aF vF tl) := by
  refine Ct.of (by decide) (Nat.le_of_ble_eq_true rfl) (fun X C hQ hin => ?_)
  have C : Cx E X cX5_init 1 RX5 none 1 40 17 49177 := C
  refine mg_aload_n C dX5_init_0 rfl ?_
  refine mg_objInit C oX5_1 (by decide) (by decide) dX5_init_1 ?_
  refine mg_aload_n C dX5_init_4 rfl ?_
  refine mg_iconst (v := 1) C dX5_init_5 (by decide) ?_
  refine mg_put C inG_X5 fX5_7 (ci := 5) rfl rfl tyX5 tyX5_ok nmX5 rfl 0 rfl rfl rfl rfl dX5_init_6 (ws' := ((h, .inr (5, [.int 1, .int 0, .int 0, .null, .null, .null, .null, .int 0, .int 0, .int 0, .int 0, .int 0, .int 0, .null, .null, .null, .null, .null, .null, .null, .null, .null, .null, .null, .null, .int 0, .int 0, .null, .int 0])) :: tl)) rfl ?_
  refine mg_aload_n C dX5_init_9 rfl ?_
  refine mg_iconst (v := 1) C dX5_init_10 (by decide) ?_
  refine mg_put C inG_X5 fX5_13 (ci := 5) rfl rfl tyX5 tyX5_ok nmX5 rfl 0 rfl rfl rfl rfl dX5_init_11 (ws' := ((h, .inr (5, [.int 1, .int 1, .int 0, .null, .null, .null, .null, .int 0, .int 0, .int 0, .int 0, .int 0, .int 0, .null, .null, .null, .null, .null, .null, .null, .null, .null, .null, .null, .null, .int 0, .int 0, .null, .int 0])) :: tl)) rfl ?_
  refine mg_aload_n C dX5_init_14 rfl ?_
  refine mg_iconst (v := 1) C dX5_init_15 (by decide) ?_
  refine mg_put C inG_X5 fX5_16 (ci := 5) rfl rfl tyX5 tyX5_ok nmX5 rfl 0 rfl rfl rfl rfl dX5_init_16 (ws' := ((h, .inr (5, [.int 1, .int 1, .int 1, .null, .null, .null, .null, .int 0, .int 0, .int 0, .int 0, .int 0, .int 0, .null, .null, .null, .null, .null, .null, .null, .null, .null, .null, .null, .null, .int 0, .int 0, .null, .int 0])) :: tl)) rfl ?_
  refine mg_aload_n C dX5_init_19 rfl ?_
  refine mg_sipush (v := 192) C dX5_init_20 (by decide) ?_
  refine mg_newi C aI_ok (N := 192) (by decide) (by decide) (by decide) (by decide) (by decide) dX5_init_23 (fun q23 => ?_)
  refine mg_putF C inG_X5 fX5_19 (ci := 5) rfl rfl tyX5 tyX5_ok nmX5 rfl hin rfl 1 rfl rfl rfl rfl dX5_init_25 (ws' := ((q23, .inl (E.2.2.1, 192, .inl (fun _ => 0))) :: (h, .inr (5, [.int 1, .int 1, .int 1, .ref q23, .null, .null, .null, .int 0, .int 0, .int 0, .int 0, .int 0, .int 0, .null, .null, .null, .null, .null, .null, .null, .null, .null, .null, .null, .null, .int 0, .int 0, .null, .int 0])) :: tl)) rfl ?_
  refine mg_aload_n C dX5_init_28 rfl ?_
  refine mg_sipush (v := 192) C dX5_init_29 (by decide) ?_
  refine mg_newi C aI_ok (N := 192) (by decide) (by decide) (by decide) (by decide) (by decide) dX5_init_32 (fun q32 => ?_)
  refine mg_putF C inG_X5 fX5_23 (ci := 5) rfl rfl tyX5 tyX5_ok nmX5 rfl hin rfl 2 rfl rfl rfl rfl dX5_init_34 (ws' := ((q32, .inl (E.2.2.1, 192, .inl (fun _ => 0))) :: (q23, .inl (E.2.2.1, 192, .inl (fun _ => 0))) :: (h, .inr (5, [.int 1, .int 1, .int 1, .ref q23, .ref q32, .null, .null, .int 0, .int 0, .int 0, .int 0, .int 0, .int 0, .null, .null, .null, .null, .null, .null, .null, .null, .null, .null, .null, .null, .int 0, .int 0, .null, .int 0])) :: tl)) rfl ?_
  refine mg_aload_n C dX5_init_37 rfl ?_
  refine mg_sipush (v := 192) C dX5_init_38 (by decide) ?_
  refine mg_newi C aI_ok (N := 192) (by decide) (by decide) (by decide) (by decide) (by decide) dX5_init_41 (fun q41 => ?_)
  refine mg_putF C inG_X5 fX5_26 (ci := 5) rfl rfl tyX5 tyX5_ok nmX5 rfl hin rfl 3 rfl rfl rfl rfl dX5_init_43 (ws' := ((q41, .inl (E.2.2.1, 192, .inl (fun _ => 0))) :: (q32, .inl (E.2.2.1, 192, .inl (fun _ => 0))) :: (q23, .inl (E.2.2.1, 192, .inl (fun _ => 0))) :: (h, .inr (5, [.int 1, .int 1, .int 1, .ref q23, .ref q32, .ref q41, .null, .int 0, .int 0, .int 0, .int 0, .int 0, .int 0, .null, .null, .null, .null, .null, .null, .null, .null, .null, .null, .null, .null, .int 0, .int 0, .null, .int 0])) :: tl)) rfl ?_
  refine mg_aload_n C dX5_init_46 rfl ?_
  refine mg_bipush (v := 8) C dX5_init_47 (by decide) ?_
  refine mg_newi C aI_ok (N := 8) (by decide) (by decide) (by decide) (by decide) (by decide) dX5_init_49 (fun q49 => ?_)
  refine mg_putF C inG_X5 fX5_29 (ci := 5) rfl rfl tyX5 tyX5_ok nmX5 rfl hin rfl 4 rfl rfl rfl rfl dX5_init_51 (ws' := ((q49, .inl (E.2.2.1, 8, .inl (fun _ => 0))) :: (q41, .inl (E.2.2.1, 192, .inl (fun _ => 0))) :: (q32, .inl (E.2.2.1, 192, .inl (fun _ => 0))) :: (q23, .inl (E.2.2.1, 192, .inl (fun _ => 0))) :: (h, .inr (5, [.int 1, .int 1, .int 1, .ref q23, .ref q32, .ref q41, .ref q49, .int 0, .int 0, .int 0, .int 0, .int 0, .int 0, .null, .null, .null, .null, .null, .null, .null, .null, .null, .null, .null, .null, .int 0, .int 0, .null, .int 0])) :: tl)) rfl ?_
  refine mg_aload_n C dX5_init_54 rfl ?_
  refine mg_bipush (v := 16) C dX5_init_55 (by decide) ?_
  refine mg_put C inG_X5 fX5_32 (ci := 5) rfl rfl tyX5 tyX5_ok nmX5 rfl 4 rfl rfl rfl rfl dX5_init_57 (ws' := ((q49, .inl (E.2.2.1, 8, .inl (fun _ => 0))) :: (q41, .inl (E.2.2.1, 192, .inl (fun _ => 0))) :: (q32, .inl (E.2.2.1, 192, .inl (fun _ => 0))) :: (q23, .inl (E.2.2.1, 192, .inl (fun _ => 0))) :: (h, .inr (5, [.int 1, .int 1, .int 1, .ref q23, .ref q32, .ref q41, .ref q49, .int 16, .int 0, .int 0, .int 0, .int 0, .int 0, .null, .null, .null, .null, .null, .null, .null, .null, .null, .null, .null, .null, .int 0, .int 0, .null, .int 0])) :: tl)) rfl ?_
  refine mg_aload_n C dX5_init_60 rfl ?_
  refine mg_bipush (v := 96) C dX5_init_61 (by decide) ?_
  refine mg_newi C aI_ok (N := 96) (by decide) (by decide) (by decide) (by decide) (by decide) dX5_init_63 (fun q63 => ?_)
  refine mg_putF C inG_X5 fX5_35 (ci := 5) rfl rfl tyX5 tyX5_ok nmX5 rfl hin rfl 5 rfl rfl rfl rfl dX5_init_65 (ws' := ((q63, .inl (E.2.2.1, 96, .inl (fun _ => 0))) :: (q49, .inl (E.2.2.1, 8, .inl (fun _ => 0))) :: (q41, .inl (E.2.2.1, 192, .inl (fun _ => 0))) :: (q32, .inl (E.2.2.1, 192, .inl (fun _ => 0))) :: (q23, .inl (E.2.2.1, 192, .inl (fun _ => 0))) :: (h, .inr (5, [.int 1, .int 1, .int 1, .ref q23, .ref q32, .ref q41, .ref q49, .int 16, .int 0, .int 0, .int 0, .int 0, .int 0, .ref q63, .null, .null, .null, .null, .null, .null, .null, .null, .null, .null, .null, .int 0, .int 0, .null, .int 0])) :: tl)) rfl ?_
  refine mg_aload_n C dX5_init_68 rfl ?_
  refine mg_bipush (v := 8) C dX5_init_69 (by decide) ?_
  refine mg_newi C aI_ok (N := 8) (by decide) (by decide) (by decide) (by decide) (by decide) dX5_init_71 (fun q71 => ?_)
  refine mg_putF C inG_X5 fX5_38 (ci := 5) rfl rfl tyX5 tyX5_ok nmX5 rfl hin rfl 6 rfl rfl rfl rfl dX5_init_73 (ws' := ((q71, .inl (E.2.2.1, 8, .inl (fun _ => 0))) :: (q63, .inl (E.2.2.1, 96, .inl (fun _ => 0))) :: (q49, .inl (E.2.2.1, 8, .inl (fun _ => 0))) :: (q41, .inl (E.2.2.1, 192, .inl (fun _ => 0))) :: (q32, .inl (E.2.2.1, 192, .inl (fun _ => 0))) :: (q23, .inl (E.2.2.1, 192, .inl (fun _ => 0))) :: (h, .inr (5, [.int 1, .int 1, .int 1, .ref q23, .ref q32, .ref q41, .ref q49, .int 16, .int 0, .int 0, .int 0, .int 0, .int 0, .ref q63, .ref q71, .null, .null, .null, .null, .null, .null, .null, .null, .null, .null, .int 0, .int 0, .null, .int 0])) :: tl)) rfl ?_
  refine mg_aload_n C dX5_init_76 rfl ?_
  refine mg_bipush (v := 8) C dX5_init_77 (by decide) ?_
  refine mg_newi C aI_ok (N := 8) (by decide) (by decide) (by decide) (by decide) (by decide) dX5_init_79 (fun q79 => ?_)
  refine mg_putF C inG_X5 fX5_41 (ci := 5) rfl rfl tyX5 tyX5_ok nmX5 rfl hin rfl 7 rfl rfl rfl rfl dX5_init_81 (ws' := ((q79, .inl (E.2.2.1, 8, .inl (fun _ => 0))) :: (q71, .inl (E.2.2.1, 8, .inl (fun _ => 0))) :: (q63, .inl (E.2.2.1, 96, .inl (fun _ => 0))) :: (q49, .inl (E.2.2.1, 8, .inl (fun _ => 0))) :: (q41, .inl (E.2.2.1, 192, .inl (fun _ => 0))) :: (q32, .inl (E.2.2.1, 192, .inl (fun _ => 0))) :: (q23, .inl (E.2.2.1, 192, .inl (fun _ => 0))) :: (h, .inr (5, [.int 1, .int 1, .int 1, .ref q23, .ref q32, .ref q41, .ref q49, .int 16, .int 0, .int 0, .int 0, .int 0, .int 0, .ref q63, .ref q71, .ref q79, .null, .null, .null, .null, .null, .null, .null, .null, .null, .int 0, .int 0, .null, .int 0])) :: tl)) rfl ?_
  refine mg_aload_n C dX5_init_84 rfl ?_
  refine mg_bipush (v := 8) C dX5_init_85 (by decide) ?_
  refine mg_newi C aI_ok (N := 8) (by decide) (by decide) (by decide) (by decide) (by decide) dX5_init_87 (fun q87 => ?_)
  refine mg_putF C inG_X5 fX5_44 (ci := 5) rfl rfl tyX5 tyX5_ok nmX5 rfl hin rfl 8 rfl rfl rfl rfl dX5_init_89 (ws' := ((q87, .inl (E.2.2.1, 8, .inl (fun _ => 0))) :: (q79, .inl (E.2.2.1, 8, .inl (fun _ => 0))) :: (q71, .inl (E.2.2.1, 8, .inl (fun _ => 0))) :: (q63, .inl (E.2.2.1, 96, .inl (fun _ => 0))) :: (q49, .inl (E.2.2.1, 8, .inl (fun _ => 0))) :: (q41, .inl (E.2.2.1, 192, .inl (fun _ => 0))) :: (q32, .inl (E.2.2.1, 192, .inl (fun _ => 0))) :: (q23, .inl (E.2.2.1, 192, .inl (fun _ => 0))) :: (h, .inr (5, [.int 1, .int 1, .int 1, .ref q23, .ref q32, .ref q41, .ref q49, .int 16, .int 0, .int 0, .int 0, .int 0, .int 0, .ref q63, .ref q71, .ref q79, .ref q87, .null, .null, .null, .null, .null, .null, .null, .null, .int 0, .int 0, .null, .int 0])) :: tl)) rfl ?_
  refine mg_aload_n C dX5_init_92 rfl ?_
  refine mg_bipush (v := 64) C dX5_init_93 (by decide) ?_
  refine mg_newi C aI_ok (N := 64) (by decide) (by decide) (by decide) (by decide) (by decide) dX5_init_95 (fun q95 => ?_)
  refine mg_putF C inG_X5 fX5_47 (ci := 5) rfl rfl tyX5 tyX5_ok nmX5 rfl hin rfl 9 rfl rfl rfl rfl dX5_init_97 (ws' := ((q95, .inl (E.2.2.1, 64, .inl (fun _ => 0))) :: (q87, .inl (E.2.2.1, 8, .inl (fun _ => 0))) :: (q79, .inl (E.2.2.1, 8, .inl (fun _ => 0))) :: (q71, .inl (E.2.2.1, 8, .inl (fun _ => 0))) :: (q63, .inl (E.2.2.1, 96, .inl (fun _ => 0))) :: (q49, .inl (E.2.2.1, 8, .inl (fun _ => 0))) :: (q41, .inl (E.2.2.1, 192, .inl (fun _ => 0))) :: (q32, .inl (E.2.2.1, 192, .inl (fun _ => 0))) :: (q23, .inl (E.2.2.1, 192, .inl (fun _ => 0))) :: (h, .inr (5, [.int 1, .int 1, .int 1, .ref q23, .ref q32, .ref q41, .ref q49, .int 16, .int 0, .int 0, .int 0, .int 0, .int 0, .ref q63, .ref q71, .ref q79, .ref q87, .ref q95, .null, .null, .null, .null, .null, .null, .null, .int 0, .int 0, .null, .int 0])) :: tl)) rfl ?_
  refine mg_aload_n C dX5_init_100 rfl ?_
  refine mg_bipush (v := 8) C dX5_init_101 (by decide) ?_
  refine mg_newi C aI_ok (N := 8) (by decide) (by decide) (by decide) (by decide) (by decide) dX5_init_103 (fun q103 => ?_)
  refine mg_putF C inG_X5 fX5_50 (ci := 5) rfl rfl tyX5 tyX5_ok nmX5 rfl hin rfl 10 rfl rfl rfl rfl dX5_init_105 (ws' := ((q103, .inl (E.2.2.1, 8, .inl (fun _ => 0))) :: (q95, .inl (E.2.2.1, 64, .inl (fun _ => 0))) :: (q87, .inl (E.2.2.1, 8, .inl (fun _ => 0))) :: (q79, .inl (E.2.2.1, 8, .inl (fun _ => 0))) :: (q71, .inl (E.2.2.1, 8, .inl (fun _ => 0))) :: (q63, .inl (E.2.2.1, 96, .inl (fun _ => 0))) :: (q49, .inl (E.2.2.1, 8, .inl (fun _ => 0))) :: (q41, .inl (E.2.2.1, 192, .inl (fun _ => 0))) :: (q32, .inl (E.2.2.1, 192, .inl (fun _ => 0))) :: (q23, .inl (E.2.2.1, 192, .inl (fun _ => 0))) :: (h, .inr (5, [.int 1, .int 1, .int 1, .ref q23, .ref q32, .ref q41, .ref q49, .int 16, .int 0, .int 0, .int 0, .int 0, .int 0, .ref q63, .ref q71, .ref q79, .ref q87, .ref q95, .ref q103, .null, .null, .null, .null, .null, .null, .int 0, .int 0, .null, .int 0])) :: tl)) rfl ?_
  refine mg_aload_n C dX5_init_108 rfl ?_
  refine mg_bipush (v := 8) C dX5_init_109 (by decide) ?_
  refine mg_newi C aI_ok (N := 8) (by decide) (by decide) (by decide) (by decide) (by decide) dX5_init_111 (fun q111 => ?_)
  refine mg_putF C inG_X5 fX5_53 (ci := 5) rfl rfl tyX5 tyX5_ok nmX5 rfl hin rfl 11 rfl rfl rfl rfl dX5_init_113 (ws' := ((q111, .inl (E.2.2.1, 8, .inl (fun _ => 0))) :: (q103, .inl (E.2.2.1, 8, .inl (fun _ => 0))) :: (q95, .inl (E.2.2.1, 64, .inl (fun _ => 0))) :: (q87, .inl (E.2.2.1, 8, .inl (fun _ => 0))) :: (q79, .inl (E.2.2.1, 8, .inl (fun _ => 0))) :: (q71, .inl (E.2.2.1, 8, .inl (fun _ => 0))) :: (q63, .inl (E.2.2.1, 96, .inl (fun _ => 0))) :: (q49, .inl (E.2.2.1, 8, .inl (fun _ => 0))) :: (q41, .inl (E.2.2.1, 192, .inl (fun _ => 0))) :: (q32, .inl (E.2.2.1, 192, .inl (fun _ => 0))) :: (q23, .inl (E.2.2.1, 192, .inl (fun _ => 0))) :: (h, .inr (5, [.int 1, .int 1, .int 1, .ref q23, .ref q32, .ref q41, .ref q49, .int 16, .int 0, .int 0, .int 0, .int 0, .int 0, .ref q63, .ref q71, .ref q79, .ref q87, .ref q95, .ref q103, .ref q111, .null, .null, .null, .null, .null, .int 0, .int 0, .null, .int 0])) :: tl)) rfl ?_
  refine mg_aload_n C dX5_init_116 rfl ?_
  refine mg_bipush (v := 9) C dX5_init_117 (by decide) ?_
  refine mg_newi C aI_ok (N := 9) (by decide) (by decide) (by decide) (by decide) (by decide) dX5_init_119 (fun q119 => ?_)
  refine mg_putF C inG_X5 fX5_56 (ci := 5) rfl rfl tyX5 tyX5_ok nmX5 rfl hin rfl 12 rfl rfl rfl rfl dX5_init_121 (ws' := ((q119, .inl (E.2.2.1, 9, .inl (fun _ => 0))) :: (q111, .inl (E.2.2.1, 8, .inl (fun _ => 0))) :: (q103, .inl (E.2.2.1, 8, .inl (fun _ => 0))) :: (q95, .inl (E.2.2.1, 64, .inl (fun _ => 0))) :: (q87, .inl (E.2.2.1, 8, .inl (fun _ => 0))) :: (q79, .inl (E.2.2.1, 8, .inl (fun _ => 0))) :: (q71, .inl (E.2.2.1, 8, .inl (fun _ => 0))) :: (q63, .inl (E.2.2.1, 96, .inl (fun _ => 0))) :: (q49, .inl (E.2.2.1, 8, .inl (fun _ => 0))) :: (q41, .inl (E.2.2.1, 192, .inl (fun _ => 0))) :: (q32, .inl (E.2.2.1, 192, .inl (fun _ => 0))) :: (q23, .inl (E.2.2.1, 192, .inl (fun _ => 0))) :: (h, .inr (5, [.int 1, .int 1, .int 1, .ref q23, .ref q32, .ref q41, .ref q49, .int 16, .int 0, .int 0, .int 0, .int 0, .int 0, .ref q63, .ref q71, .ref q79, .ref q87, .ref q95, .ref q103, .ref q111, .ref q119, .null, .null, .null, .null, .int 0, .int 0, .null, .int 0])) :: tl)) rfl ?_
  refine mg_aload_n C dX5_init_124 rfl ?_
  refine mg_sipush (v := 8000) C dX5_init_125 (by decide) ?_
  refine mg_newl C aJ_ok (N := 8000) (by decide) (by decide) (by decide) (by decide) (by decide) dX5_init_128 (fun q128 => ?_)
  refine mg_putF C inG_X5 fX5_59 (ci := 5) rfl rfl tyX5 tyX5_ok nmX5 rfl hin rfl 13 rfl rfl rfl rfl dX5_init_130 (ws' := ((q128, .inl (E.2.2.2, 8000, .inr (.inl (fun _ => 0)))) :: (q119, .inl (E.2.2.1, 9, .inl (fun _ => 0))) :: (q111, .inl (E.2.2.1, 8, .inl (fun _ => 0))) :: (q103, .inl (E.2.2.1, 8, .inl (fun _ => 0))) :: (q95, .inl (E.2.2.1, 64, .inl (fun _ => 0))) :: (q87, .inl (E.2.2.1, 8, .inl (fun _ => 0))) :: (q79, .inl (E.2.2.1, 8, .inl (fun _ => 0))) :: (q71, .inl (E.2.2.1, 8, .inl (fun _ => 0))) :: (q63, .inl (E.2.2.1, 96, .inl (fun _ => 0))) :: (q49, .inl (E.2.2.1, 8, .inl (fun _ => 0))) :: (q41, .inl (E.2.2.1, 192, .inl (fun _ => 0))) :: (q32, .inl (E.2.2.1, 192, .inl (fun _ => 0))) :: (q23, .inl (E.2.2.1, 192, .inl (fun _ => 0))) :: (h, .inr (5, [.int 1, .int 1, .int 1, .ref q23, .ref q32, .ref q41, .ref q49, .int 16, .int 0, .int 0, .int 0, .int 0, .int 0, .ref q63, .ref q71, .ref q79, .ref q87, .ref q95, .ref q103, .ref q111, .ref q119, .ref q128, .null, .null, .null, .int 0, .int 0, .null, .int 0])) :: tl)) rfl ?_
  refine mg_aload_n C dX5_init_133 rfl ?_
  refine mg_sipush (v := 8000) C dX5_init_134 (by decide) ?_
  refine mg_newi C aI_ok (N := 8000) (by decide) (by decide) (by decide) (by decide) (by decide) dX5_init_137 (fun q137 => ?_)
  refine mg_putF C inG_X5 fX5_63 (ci := 5) rfl rfl tyX5 tyX5_ok nmX5 rfl hin rfl 14 rfl rfl rfl rfl dX5_init_139 (ws' := ((q137, .inl (E.2.2.1, 8000, .inl (fun _ => 0))) :: (q128, .inl (E.2.2.2, 8000, .inr (.inl (fun _ => 0)))) :: (q119, .inl (E.2.2.1, 9, .inl (fun _ => 0))) :: (q111, .inl (E.2.2.1, 8, .inl (fun _ => 0))) :: (q103, .inl (E.2.2.1, 8, .inl (fun _ => 0))) :: (q95, .inl (E.2.2.1, 64, .inl (fun _ => 0))) :: (q87, .inl (E.2.2.1, 8, .inl (fun _ => 0))) :: (q79, .inl (E.2.2.1, 8, .inl (fun _ => 0))) :: (q71, .inl (E.2.2.1, 8, .inl (fun _ => 0))) :: (q63, .inl (E.2.2.1, 96, .inl (fun _ => 0))) :: (q49, .inl (E.2.2.1, 8, .inl (fun _ => 0))) :: (q41, .inl (E.2.2.1, 192, .inl (fun _ => 0))) :: (q32, .inl (E.2.2.1, 192, .inl (fun _ => 0))) :: (q23, .inl (E.2.2.1, 192, .inl (fun _ => 0))) :: (h, .inr (5, [.int 1, .int 1, .int 1, .ref q23, .ref q32, .ref q41, .ref q49, .int 16, .int 0, .int 0, .int 0, .int 0, .int 0, .ref q63, .ref q71, .ref q79, .ref q87, .ref q95, .ref q103, .ref q111, .ref q119, .ref q128, .ref q137, .null, .null, .int 0, .int 0, .null, .int 0])) :: tl)) rfl ?_
  refine mg_aload_n C dX5_init_142 rfl ?_
  refine mg_sipush (v := 8000) C dX5_init_143 (by decide) ?_
  refine mg_newi C aI_ok (N := 8000) (by decide) (by decide) (by decide) (by decide) (by decide) dX5_init_146 (fun q146 => ?_)
  refine mg_putF C inG_X5 fX5_66 (ci := 5) rfl rfl tyX5 tyX5_ok nmX5 rfl hin rfl 15 rfl rfl rfl rfl dX5_init_148 (ws' := ((q146, .inl (E.2.2.1, 8000, .inl (fun _ => 0))) :: (q137, .inl (E.2.2.1, 8000, .inl (fun _ => 0))) :: (q128, .inl (E.2.2.2, 8000, .inr (.inl (fun _ => 0)))) :: (q119, .inl (E.2.2.1, 9, .inl (fun _ => 0))) :: (q111, .inl (E.2.2.1, 8, .inl (fun _ => 0))) :: (q103, .inl (E.2.2.1, 8, .inl (fun _ => 0))) :: (q95, .inl (E.2.2.1, 64, .inl (fun _ => 0))) :: (q87, .inl (E.2.2.1, 8, .inl (fun _ => 0))) :: (q79, .inl (E.2.2.1, 8, .inl (fun _ => 0))) :: (q71, .inl (E.2.2.1, 8, .inl (fun _ => 0))) :: (q63, .inl (E.2.2.1, 96, .inl (fun _ => 0))) :: (q49, .inl (E.2.2.1, 8, .inl (fun _ => 0))) :: (q41, .inl (E.2.2.1, 192, .inl (fun _ => 0))) :: (q32, .inl (E.2.2.1, 192, .inl (fun _ => 0))) :: (q23, .inl (E.2.2.1, 192, .inl (fun _ => 0))) :: (h, .inr (5, [.int 1, .int 1, .int 1, .ref q23, .ref q32, .ref q41, .ref q49, .int 16, .int 0, .int 0, .int 0, .int 0, .int 0, .ref q63, .ref q71, .ref q79, .ref q87, .ref q95, .ref q103, .ref q111, .ref q119, .ref q128, .ref q137, .ref q146, .null, .int 0, .int 0, .null, .int 0])) :: tl)) rfl ?_
  refine mg_aload_n C dX5_init_151 rfl ?_
  refine mg_sipush (v := 16384) C dX5_init_152 (by decide) ?_
  refine mg_newi C aI_ok (N := 16384) (by decide) (by decide) (by decide) (by decide) (by decide) dX5_init_155 (fun q155 => ?_)
  refine mg_putF C inG_X5 fX5_69 (ci := 5) rfl rfl tyX5 tyX5_ok nmX5 rfl hin rfl 16 rfl rfl rfl rfl dX5_init_157 (ws' := ((q155, .inl (E.2.2.1, 16384, .inl (fun _ => 0))) :: (q146, .inl (E.2.2.1, 8000, .inl (fun _ => 0))) :: (q137, .inl (E.2.2.1, 8000, .inl (fun _ => 0))) :: (q128, .inl (E.2.2.2, 8000, .inr (.inl (fun _ => 0)))) :: (q119, .inl (E.2.2.1, 9, .inl (fun _ => 0))) :: (q111, .inl (E.2.2.1, 8, .inl (fun _ => 0))) :: (q103, .inl (E.2.2.1, 8, .inl (fun _ => 0))) :: (q95, .inl (E.2.2.1, 64, .inl (fun _ => 0))) :: (q87, .inl (E.2.2.1, 8, .inl (fun _ => 0))) :: (q79, .inl (E.2.2.1, 8, .inl (fun _ => 0))) :: (q71, .inl (E.2.2.1, 8, .inl (fun _ => 0))) :: (q63, .inl (E.2.2.1, 96, .inl (fun _ => 0))) :: (q49, .inl (E.2.2.1, 8, .inl (fun _ => 0))) :: (q41, .inl (E.2.2.1, 192, .inl (fun _ => 0))) :: (q32, .inl (E.2.2.1, 192, .inl (fun _ => 0))) :: (q23, .inl (E.2.2.1, 192, .inl (fun _ => 0))) :: (h, .inr (5, [.int 1, .int 1, .int 1, .ref q23, .ref q32, .ref q41, .ref q49, .int 16, .int 0, .int 0, .int 0, .int 0, .int 0, .ref q63, .ref q71, .ref q79, .ref q87, .ref q95, .ref q103, .ref q111, .ref q119, .ref q128, .ref q137, .ref q146, .ref q155, .int 0, .int 0, .null, .int 0])) :: tl)) rfl ?_
  refine mg_aload_n C dX5_init_160 rfl ?_
  refine mg_sipush (v := 8000) C dX5_init_161 (by decide) ?_
  refine mg_newi C aI_ok (N := 8000) (by decide) (by decide) (by decide) (by decide) (by decide) dX5_init_164 (fun q164 => ?_)
  refine mg_putF C inG_X5 fX5_72 (ci := 5) rfl rfl tyX5 tyX5_ok nmX5 rfl hin rfl 17 rfl rfl rfl rfl dX5_init_166 (ws' := ((q164, .inl (E.2.2.1, 8000, .inl (fun _ => 0))) :: (q155, .inl (E.2.2.1, 16384, .inl (fun _ => 0))) :: (q146, .inl (E.2.2.1, 8000, .inl (fun _ => 0))) :: (q137, .inl (E.2.2.1, 8000, .inl (fun _ => 0))) :: (q128, .inl (E.2.2.2, 8000, .inr (.inl (fun _ => 0)))) :: (q119, .inl (E.2.2.1, 9, .inl (fun _ => 0))) :: (q111, .inl (E.2.2.1, 8, .inl (fun _ => 0))) :: (q103, .inl (E.2.2.1, 8, .inl (fun _ => 0))) :: (q95, .inl (E.2.2.1, 64, .inl (fun _ => 0))) :: (q87, .inl (E.2.2.1, 8, .inl (fun _ => 0))) :: (q79, .inl (E.2.2.1, 8, .inl (fun _ => 0))) :: (q71, .inl (E.2.2.1, 8, .inl (fun _ => 0))) :: (q63, .inl (E.2.2.1, 96, .inl (fun _ => 0))) :: (q49, .inl (E.2.2.1, 8, .inl (fun _ => 0))) :: (q41, .inl (E.2.2.1, 192, .inl (fun _ => 0))) :: (q32, .inl (E.2.2.1, 192, .inl (fun _ => 0))) :: (q23, .inl (E.2.2.1, 192, .inl (fun _ => 0))) :: (h, .inr (5, [.int 1, .int 1, .int 1, .ref q23, .ref q32, .ref q41, .ref q49, .int 16, .int 0, .int 0, .int 0, .int 0, .int 0, .ref q63, .ref q71, .ref q79, .ref q87, .ref q95, .ref q103, .ref q111, .ref q119, .ref q128, .ref q137, .ref q146, .ref q155, .int 0, .int 0, .ref q164, .int 0])) :: tl)) rfl ?_
  refine mg_aload_n C dX5_init_169 rfl ?_
  refine mg_iconst (v := (-1)) C dX5_init_170 (by decide) ?_
  refine mg_put C inG_X5 fX5_75 (ci := 5) rfl rfl tyX5 tyX5_ok nmX5 rfl 17 rfl rfl rfl rfl dX5_init_171 (ws' := ((q164, .inl (E.2.2.1, 8000, .inl (fun _ => 0))) :: (q155, .inl (E.2.2.1, 16384, .inl (fun _ => 0))) :: (q146, .inl (E.2.2.1, 8000, .inl (fun _ => 0))) :: (q137, .inl (E.2.2.1, 8000, .inl (fun _ => 0))) :: (q128, .inl (E.2.2.2, 8000, .inr (.inl (fun _ => 0)))) :: (q119, .inl (E.2.2.1, 9, .inl (fun _ => 0))) :: (q111, .inl (E.2.2.1, 8, .inl (fun _ => 0))) :: (q103, .inl (E.2.2.1, 8, .inl (fun _ => 0))) :: (q95, .inl (E.2.2.1, 64, .inl (fun _ => 0))) :: (q87, .inl (E.2.2.1, 8, .inl (fun _ => 0))) :: (q79, .inl (E.2.2.1, 8, .inl (fun _ => 0))) :: (q71, .inl (E.2.2.1, 8, .inl (fun _ => 0))) :: (q63, .inl (E.2.2.1, 96, .inl (fun _ => 0))) :: (q49, .inl (E.2.2.1, 8, .inl (fun _ => 0))) :: (q41, .inl (E.2.2.1, 192, .inl (fun _ => 0))) :: (q32, .inl (E.2.2.1, 192, .inl (fun _ => 0))) :: (q23, .inl (E.2.2.1, 192, .inl (fun _ => 0))) :: (h, .inr (5, [.int 1, .int 1, .int 1, .ref q23, .ref q32, .ref q41, .ref q49, .int 16, .int 0, .int 0, .int 0, .int 0, .int 0, .ref q63, .ref q71, .ref q79, .ref q87, .ref q95, .ref q103, .ref q111, .ref q119, .ref q128, .ref q137, .ref q146, .ref q155, .int 0, .int 0, .ref q164, .int (-1)])) :: tl)) rfl ?_
  refine mg_aload_n C dX5_init_174 rfl ?_
  refine mg_iconst (v := 1) C dX5_init_175 (by decide) ?_
  refine mg_iconst (v := 1) C dX5_init_176 (by decide) ?_
  refine mg_iconst (v := 1) C dX5_init_177 (by decide) ?_
  refine mg_ws (ws' := mw E (adL [q164, q155, q146, q137, q128, q119, q111, q103, q95, q87, q79, q71, q63, q49, q41, q32, q23, h]) (fun i => bif Nat.beq i 16 then -1 else bif Nat.beq i 3 then 16 else bif Nat.blt i 3 then 1 else 0) (fun _ _ => 0) (fun _ => 0) tl) rfl ?_
  refine mg_callV C (ct_X5_begins E _ _ _ _ _ _ _ _) oX5_78 17 rfl rfl rfl rfl rfl dX5_init_178 (fun o178 w178 z178 => ?_)
  obtain ⟨rfl, rfl⟩ := z178
  refine mg_v0 ?_
  exact mg_vret C hQ dX5_init_181 (⟨rfl, [q164, q155, q146, q137, q128, q119, q111, q103, q95, q87, q79, q71, q63, q49, q41, q32, q23, h], rfl, rfl⟩)
set_option maxHeartbeats 400000 in
set_option maxRecDepth 100000 in
theorem cf_takeAnew (E : En) (ad : Nat → Nat) (tl : va_W)   : Ct E mX0_takeAnew 1 0 0 [.ref (ad 7)] (cw E ad 16 gF aF vF tl) (fun o w => o = none ∧ ∃ L : va_W, w = L ++ tl) := by
  refine Ct.of (by decide) (Nat.le_of_ble_eq_true rfl) (fun X C hQ hin => ?_)
  have C : Cx E X cX0_takeAnew 6 RX0 none 1 40 0 0 := C
  refine mg_iconst (v := 0) C dX0_takeAnew_0 (by decide) ?_
  refine mg_istore_n C dX0_takeAnew_1 rfl ?_
  refine mg_lve (lv' := [(0, _), (1, _)]) rfl ?_
  refine mg_iload_n C dX0_takeAnew_2 rfl ?_
  refine mg_aload_n C dX0_takeAnew_3 rfl ?_
  refine mg_get C inG_X0 fX0_18 (ci := 0) rfl rfl 7 rfl rfl dX0_takeAnew_4 ?_
  refine mg_getN C inG_X1 fX0_22 (ci := 1) rfl rfl 18 rfl rfl dX0_takeAnew_7 ?_
  refine mg_icmp_ge C 99 dX0_takeAnew_10 (by decide) (fun h10 => absurd h10 (by decide)) (fun h10 => ?_)
  refine mg_iconst (v := 0) C dX0_takeAnew_13 (by decide) ?_
  refine mg_istore_n C dX0_takeAnew_14 rfl ?_
  refine mg_lve (lv' := [(0, _), (1, _), (2, _)]) rfl ?_
  refine mg_iconst (v := 0) C dX0_takeAnew_15 (by decide) ?_
  refine mg_istore_n C dX0_takeAnew_16 rfl ?_
  refine mg_lve (lv' := [(0, _), (1, _), (2, _), (3, _)]) rfl ?_
  refine mg_iconst (v := 0) C dX0_takeAnew_17 (by decide) ?_
  refine mg_istore C dX0_takeAnew_18 rfl ?_
  refine mg_lve (lv' := [(0, _), (1, _), (2, _), (3, _), (4, _)]) rfl ?_
  refine mg_iload C dX0_takeAnew_20 rfl ?_
  refine mg_aload_n C dX0_takeAnew_22 rfl ?_
  refine mg_get C inG_X0 fX0_18 (ci := 0) rfl rfl 7 rfl rfl dX0_takeAnew_23 ?_
  refine mg_getN C inG_X1 fX0_28 (ci := 1) rfl rfl 18 rfl rfl dX0_takeAnew_26 ?_
  refine mg_icmp_ge C 73 dX0_takeAnew_29 (by decide) (fun h29 => absurd h29 (by decide)) (fun h29 => ?_)
  refine mg_aload_n C dX0_takeAnew_32 rfl ?_
  refine mg_get C inG_X0 fX0_18 (ci := 0) rfl rfl 7 rfl rfl dX0_takeAnew_33 ?_
  refine mg_getN C inG_X1 fX0_31 (ci := 1) rfl rfl 18 rfl rfl dX0_takeAnew_36 ?_
  refine mg_aload_n C dX0_takeAnew_39 rfl ?_
  refine mg_get C inG_X0 fX0_18 (ci := 0) rfl rfl 7 rfl rfl dX0_takeAnew_40 ?_
  refine mg_iload_n C dX0_takeAnew_43 rfl ?_
  refine mg_iload C dX0_takeAnew_44 rfl ?_
  refine mg_callVN C (ct_X1_place E _ _ _ _ _ _ _ _) oX0_34 18 rfl rfl rfl rfl rfl dX0_takeAnew_46 (fun o46 w46 z46 => ?_)
  obtain ⟨rfl, rfl⟩ := z46
  refine mg_v ?_
  refine mg_iald C 17 rfl (vin0) dX0_takeAnew_49 ?_
  refine mg_istore C dX0_takeAnew_50 rfl ?_
  refine mg_lve (lv' := [(0, _), (1, _), (2, _), (3, _), (4, _), (5, _)]) rfl ?_
  refine mg_iload_n C dX0_takeAnew_52 rfl ?_
  refine mg_iload C dX0_takeAnew_53 rfl ?_
  refine mg_iadd C dX0_takeAnew_55 ?_
  refine mg_istore_n C dX0_takeAnew_56 rfl ?_
  refine mg_lve (lv' := [(0, _), (1, _), (2, _), (3, _), (4, _), (5, _)]) rfl ?_
  refine mg_iload_n C dX0_takeAnew_57 rfl ?_
  refine mg_iload C dX0_takeAnew_58 rfl ?_
  refine mg_iconst (v := 1) C dX0_takeAnew_60 (by decide) ?_
  refine mg_iadd C dX0_takeAnew_61 ?_
  refine mg_iload C dX0_takeAnew_62 rfl ?_
  refine mg_imul C dX0_takeAnew_64 ?_
  refine mg_iadd C dX0_takeAnew_65 ?_
  refine mg_istore_n C dX0_takeAnew_66 rfl ?_
  refine mg_lve (lv' := [(0, _), (1, _), (2, _), (3, _), (4, _), (5, _)]) rfl ?_
  refine mg_iinc C dX0_takeAnew_67 rfl rfl ?_
  refine mg_lve (lv' := [(0, _), (1, _), (2, _), (3, _), (4, _), (5, _)]) rfl ?_
  refine mg_goto C 20 dX0_takeAnew_70 (by decide) ?_
  refine mg_iload C dX0_takeAnew_20 rfl ?_
  refine mg_aload_n C dX0_takeAnew_22 rfl ?_
  refine mg_get C inG_X0 fX0_18 (ci := 0) rfl rfl 7 rfl rfl dX0_takeAnew_23 ?_
  refine mg_getN C inG_X1 fX0_28 (ci := 1) rfl rfl 18 rfl rfl dX0_takeAnew_26 ?_
  refine mg_icmp_ge C 73 dX0_takeAnew_29 (by decide) (fun h29 => ?_) (fun h29 => absurd h29 (by decide))
  refine mg_aload_n C dX0_takeAnew_73 rfl ?_
  refine mg_get C inG_X0 fX0_9 (ci := 0) rfl rfl 7 rfl rfl dX0_takeAnew_74 ?_
  refine mg_iload_n C dX0_takeAnew_77 rfl ?_
  refine mg_iload_n C dX0_takeAnew_78 rfl ?_
  refine mg_bipush (v := 97) C dX0_takeAnew_79 (by decide) ?_
  refine mg_irem C dX0_takeAnew_81 (by decide) ?_
  refine mg_topi (fun zv82 ezv82 => ?_)
  refine mg_iast C 6 rfl (vin00) dX0_takeAnew_82 (ws' := (cw E ad 16 gF (ups aF 9 (0 : Int32).toNatClampNeg zv82) vF tl)) rfl ?_
  refine mg_aload_n C dX0_takeAnew_83 rfl ?_
  refine mg_get C inG_X0 fX0_15 (ci := 0) rfl rfl 7 rfl rfl dX0_takeAnew_84 ?_
  refine mg_iload_n C dX0_takeAnew_87 rfl ?_
  refine mg_iload_n C dX0_takeAnew_88 rfl ?_
  refine mg_bipush (v := 97) C dX0_takeAnew_89 (by decide) ?_
  refine mg_irem C dX0_takeAnew_91 (by decide) ?_
  refine mg_topi (fun zv92 ezv92 => ?_)
  refine mg_iast C 5 rfl (vin00) dX0_takeAnew_92 (ws' := (cw E ad 16 gF (ups (ups aF 9 (0 : Int32).toNatClampNeg zv82) 10 (0 : Int32).toNatClampNeg zv92) vF tl)) rfl ?_
  refine mg_iinc C dX0_takeAnew_93 rfl rfl ?_
  refine mg_lve (lv' := [(0, _), (1, _), (2, _), (3, _), (4, _), (5, _)]) rfl ?_
  refine mg_goto C 2 dX0_takeAnew_96 (by decide) ?_
  refine mg_iload_n C dX0_takeAnew_2 rfl ?_
  refine mg_aload_n C dX0_takeAnew_3 rfl ?_
  refine mg_get C inG_X0 fX0_18 (ci := 0) rfl rfl 7 rfl rfl dX0_takeAnew_4 ?_
  refine mg_getN C inG_X1 fX0_22 (ci := 1) rfl rfl 18 rfl rfl dX0_takeAnew_7 ?_
  refine mg_icmp_ge C 99 dX0_takeAnew_10 (by decide) (fun h10 => ?_) (fun h10 => absurd h10 (by decide))
  refine mg_aload_n C dX0_takeAnew_99 rfl ?_
  refine mg_iconst (v := 1) C dX0_takeAnew_100 (by decide) ?_
  refine mg_put C inG_X0 fX0_38 (ci := 0) rfl rfl tyX0 tyX0_ok nmX0 rfl 7 rfl rfl rfl rfl dX0_takeAnew_101 (ws' := (cw E ad 16 (ug gF 9 1) (ups (ups aF 9 (0 : Int32).toNatClampNeg zv82) 10 (0 : Int32).toNatClampNeg zv92) vF tl)) rfl ?_
  exact mg_vret C hQ dX0_takeAnew_104 (⟨rfl, zx⟩)
set_option maxHeartbeats 400000 in
set_option maxRecDepth 100000 in
theorem ct_X4_seal (E : En) (ad : Nat → Nat) (tl : va_W)   : Ct E mX4_seal 2 0 0 [.ref (ad 19)] (cw E ad 16 gF aF vF tl) (fun o w => o = some (.int (1)) ∧ ∃ L : va_W, w = L ++ tl) := by
  refine Ct.of (by decide) (Nat.le_of_ble_eq_true rfl) (fun X C hQ hin => ?_)
  have C : Cx E X cX4_seal 1 RX4 (some .int) 2 80 0 0 := C
  refine mg_aload_n C dX4_seal_0 rfl ?_
  refine mg_get C inG_X4 fX4_28 (ci := 4) rfl rfl 19 rfl rfl dX4_seal_1 ?_
  refine mg_callVN C (cf_takeAnew E _ _) oX4_145 7 rfl rfl rfl rfl rfl dX4_seal_4 (fun o4 w4 z4 => ?_)
  obtain ⟨rfl, Lz, rfl⟩ := z4
  refine mg_v0 ?_
  refine mg_iconst (v := 1) C dX4_seal_7 (by decide) ?_
  exact mg_iret C hQ dX4_seal_8 (⟨rfl, Lz, rfl⟩)
set_option maxHeartbeats 400000 in
set_option maxRecDepth 100000 in
theorem ct_X5_seal (E : En) (ad : Nat → Nat) (tl : va_W)   : Ct E mX5_seal 0 0 0 [.ref (ad 17)] (mw E ad gF aF vF tl) (fun o w => o = some (.int (1)) ∧ True) := by
  refine Ct.of (by decide) (Nat.le_of_ble_eq_true rfl) (fun X C hQ hin => ?_)
  have C : Cx E X cX5_seal 5 RX5 (some .int) 0 0 0 0 := C
  refine mg_iconst (v := 0) C dX5_seal_0 (by decide) ?_
  refine mg_istore_n C dX5_seal_1 rfl ?_
  refine mg_lve (lv' := [(0, _), (1, _)]) rfl ?_
  refine mg_iload_n C dX5_seal_2 rfl ?_
  refine mg_aload_n C dX5_seal_3 rfl ?_
  refine mg_get C inG_X5 fX5_7 (ci := 5) rfl rfl 17 rfl rfl dX5_seal_4 ?_
  refine mg_icmp_ge C 93 dX5_seal_7 (by decide) (fun h7 => absurd h7 (by decide)) (fun h7 => ?_)
  refine mg_iconst (v := 0) C dX5_seal_10 (by decide) ?_
  refine mg_istore_n C dX5_seal_11 rfl ?_
  refine mg_lve (lv' := [(0, _), (1, _), (2, _)]) rfl ?_
  refine mg_iconst (v := 0) C dX5_seal_12 (by decide) ?_
  refine mg_istore_n C dX5_seal_13 rfl ?_
  refine mg_lve (lv' := [(0, _), (1, _), (2, _), (3, _)]) rfl ?_
  refine mg_iconst (v := 0) C dX5_seal_14 (by decide) ?_
  refine mg_istore C dX5_seal_15 rfl ?_
  refine mg_lve (lv' := [(0, _), (1, _), (2, _), (3, _), (4, _)]) rfl ?_
  refine mg_iload C dX5_seal_17 rfl ?_
  refine mg_aload_n C dX5_seal_19 rfl ?_
  refine mg_get C inG_X5 fX5_13 (ci := 5) rfl rfl 17 rfl rfl dX5_seal_20 ?_
  refine mg_icmp_ge C 67 dX5_seal_23 (by decide) (fun h23 => absurd h23 (by decide)) (fun h23 => ?_)
  refine mg_iload_n C dX5_seal_26 rfl ?_
  refine mg_aload_n C dX5_seal_27 rfl ?_
  refine mg_get C inG_X5 fX5_19 (ci := 5) rfl rfl 17 rfl rfl dX5_seal_28 ?_
  refine mg_bipush (v := 24) C dX5_seal_31 (by decide) ?_
  refine mg_iload_n C dX5_seal_33 rfl ?_
  refine mg_imul C dX5_seal_34 ?_
  refine mg_iload C dX5_seal_35 rfl ?_
  refine mg_iadd C dX5_seal_37 ?_
  refine mg_iald C 16 rfl (vin0') dX5_seal_38 ?_
  refine mg_iadd C dX5_seal_39 ?_
  refine mg_istore_n C dX5_seal_40 rfl ?_
  refine mg_lve (lv' := [(0, _), (1, _), (2, _), (3, _), (4, _)]) rfl ?_
  refine mg_iload_n C dX5_seal_41 rfl ?_
  refine mg_iload C dX5_seal_42 rfl ?_
  refine mg_iconst (v := 1) C dX5_seal_44 (by decide) ?_
  refine mg_iadd C dX5_seal_45 ?_
  refine mg_aload_n C dX5_seal_46 rfl ?_
  refine mg_get C inG_X5 fX5_19 (ci := 5) rfl rfl 17 rfl rfl dX5_seal_47 ?_
  refine mg_bipush (v := 24) C dX5_seal_50 (by decide) ?_
  refine mg_iload_n C dX5_seal_52 rfl ?_
  refine mg_imul C dX5_seal_53 ?_
  refine mg_iload C dX5_seal_54 rfl ?_
  refine mg_iadd C dX5_seal_56 ?_
  refine mg_iald C 16 rfl (vin0') dX5_seal_57 ?_
  refine mg_imul C dX5_seal_58 ?_
  refine mg_iadd C dX5_seal_59 ?_
  refine mg_istore_n C dX5_seal_60 rfl ?_
  refine mg_lve (lv' := [(0, _), (1, _), (2, _), (3, _), (4, _)]) rfl ?_
  refine mg_iinc C dX5_seal_61 rfl rfl ?_
  refine mg_lve (lv' := [(0, _), (1, _), (2, _), (3, _), (4, _)]) rfl ?_
  refine mg_goto C 17 dX5_seal_64 (by decide) ?_
  refine mg_iload C dX5_seal_17 rfl ?_
  refine mg_aload_n C dX5_seal_19 rfl ?_
  refine mg_get C inG_X5 fX5_13 (ci := 5) rfl rfl 17 rfl rfl dX5_seal_20 ?_
  refine mg_icmp_ge C 67 dX5_seal_23 (by decide) (fun h23 => ?_) (fun h23 => absurd h23 (by decide))
  refine mg_aload_n C dX5_seal_67 rfl ?_
  refine mg_get C inG_X5 fX5_41 (ci := 5) rfl rfl 17 rfl rfl dX5_seal_68 ?_
  refine mg_iload_n C dX5_seal_71 rfl ?_
  refine mg_iload_n C dX5_seal_72 rfl ?_
  refine mg_bipush (v := 97) C dX5_seal_73 (by decide) ?_
  refine mg_irem C dX5_seal_75 (by decide) ?_
  refine mg_topi (fun zv76 ezv76 => ?_)
  refine mg_iast C 10 rfl (vin00) dX5_seal_76 (ws' := (mw E ad gF (ups aF 9 (0 : Int32).toNatClampNeg zv76) vF tl)) rfl ?_
  refine mg_aload_n C dX5_seal_77 rfl ?_
  refine mg_get C inG_X5 fX5_44 (ci := 5) rfl rfl 17 rfl rfl dX5_seal_78 ?_
  refine mg_iload_n C dX5_seal_81 rfl ?_
  refine mg_iload_n C dX5_seal_82 rfl ?_
  refine mg_bipush (v := 97) C dX5_seal_83 (by decide) ?_
  refine mg_irem C dX5_seal_85 (by decide) ?_
  refine mg_topi (fun zv86 ezv86 => ?_)
  refine mg_iast C 9 rfl (vin00) dX5_seal_86 (ws' := (mw E ad gF (ups (ups aF 9 (0 : Int32).toNatClampNeg zv76) 10 (0 : Int32).toNatClampNeg zv86) vF tl)) rfl ?_
  refine mg_iinc C dX5_seal_87 rfl rfl ?_
  refine mg_lve (lv' := [(0, _), (1, _), (2, _), (3, _), (4, _)]) rfl ?_
  refine mg_goto C 2 dX5_seal_90 (by decide) ?_
  refine mg_iload_n C dX5_seal_2 rfl ?_
  refine mg_aload_n C dX5_seal_3 rfl ?_
  refine mg_get C inG_X5 fX5_7 (ci := 5) rfl rfl 17 rfl rfl dX5_seal_4 ?_
  refine mg_icmp_ge C 93 dX5_seal_7 (by decide) (fun h7 => ?_) (fun h7 => absurd h7 (by decide))
  refine mg_aload_n C dX5_seal_93 rfl ?_
  refine mg_iconst (v := 1) C dX5_seal_94 (by decide) ?_
  refine mg_put C inG_X5 fX5_95 (ci := 5) rfl rfl tyX5 tyX5_ok nmX5 rfl 17 rfl rfl rfl rfl dX5_seal_95 (ws' := (mw E ad (ug gF 9 1) (ups (ups aF 9 (0 : Int32).toNatClampNeg zv76) 10 (0 : Int32).toNatClampNeg zv86) vF tl)) rfl ?_
  refine mg_iconst (v := 1) C dX5_seal_98 (by decide) ?_
  exact mg_iret C hQ dX5_seal_99 (⟨rfl, trivial⟩)
theorem skF {a : Nat → Nat → Int32} (h : a 1 0 = -1) : sk a (0 * 24 + 0) = 0 := if_pos h
set_option maxHeartbeats 400000 in
set_option maxRecDepth 100000 in
theorem cf_ageOne (E : En) (ad : Nat → Nat) (a : Nat → Nat → Int32) (tl : va_W) (hs1 : a 1 0 = -1) (hs0 : a 0 0 = 0)   : Ct E mX1_ageOne 1 0 0 [.ref (ad 18), .int (0 * 24 + 0)] (cw E ad 16 gF a vF tl) (fun o w => o = some (.int 0) ∧ ∃ a1 : Nat → Nat → Int32, a1 1 0 = -1 ∧ a1 0 0 = 0 ∧ w = cw E ad 16 gF a1 vF tl) := by
  refine Ct.of (by decide) (Nat.le_of_ble_eq_true rfl) (fun X C hQ hin => ?_)
  have C : Cx E X cX1_ageOne 2 RX1 (some .boolean) 1 40 0 0 := C
  refine mg_aload_n C dX1_ageOne_0 rfl ?_
  refine mg_iload_n C dX1_ageOne_1 rfl ?_
  refine mg_callV C (ct_X1_sticks E _ _ _ _ _ _ _ vin0) oX1_51 18 rfl rfl rfl rfl rfl dX1_ageOne_2 (fun o2 w2 z2 => ?_)
  obtain ⟨rfl, rfl⟩ := z2
  refine mg_v ?_
  refine mg_if_eq C 10 dX1_ageOne_5 (by decide) (fun h5 => ?_) (fun h5 => absurd h5 (fun hh => hh (skF hs1)))
  refine mg_aload_n C dX1_ageOne_10 rfl ?_
  refine mg_get C inG_X1 fX1_18 (ci := 1) rfl rfl 18 rfl rfl dX1_ageOne_11 ?_
  refine mg_iload_n C dX1_ageOne_14 rfl ?_
  refine mg_dup2_11 C dX1_ageOne_15 rfl rfl ?_
  refine mg_iald C 15 rfl (vin0) dX1_ageOne_16 ?_
  refine mg_iconst (v := 1) C dX1_ageOne_17 (by decide) ?_
  refine mg_iadd C dX1_ageOne_18 ?_
  refine mg_topi (fun zv19 ezv19 => ?_)
  refine mg_iast C 15 rfl (vin0) dX1_ageOne_19 (ws' := (cw E ad 16 gF (ups a 2 ((0 * 24 + 0) : Int32).toNatClampNeg zv19) vF tl)) rfl ?_
  refine mg_aload_n C dX1_ageOne_20 rfl ?_
  refine mg_get C inG_X1 fX1_9 (ci := 1) rfl rfl 18 rfl rfl dX1_ageOne_21 ?_
  refine mg_iload_n C dX1_ageOne_24 rfl ?_
  refine mg_iald C 17 rfl (vin0) dX1_ageOne_25 ?_
  refine mg_if_eq C 47 dX1_ageOne_26 (by decide) (fun h26 => ?_) (fun h26 => absurd h26 (fun hh => hh hs0))
  refine mg_iconst (v := 0) C dX1_ageOne_47 (by decide) ?_
  exact mg_zret C hQ (rfl) dX1_ageOne_48 (⟨rfl, ups a 2 (0 * 24 + 0 : Int32).toNatClampNeg zv19, hs1, hs0, rfl⟩)
set_option maxHeartbeats 400000 in
set_option maxRecDepth 100000 in
theorem cf_ageAll (E : En) (ad : Nat → Nat) (a : Nat → Nat → Int32) (tl : va_W) (hs1 : a 1 0 = -1) (hs0 : a 0 0 = 0)   : Ct E mX1_ageAll 2 0 0 [.ref (ad 18)] (cw E ad 16 gF a vF tl) (fun o w => o = some (.int 0) ∧ ∃ a1 : Nat → Nat → Int32, a1 1 0 = -1 ∧ a1 0 0 = 0 ∧ w = cw E ad 16 gF a1 vF tl) := by
  refine Ct.of (by decide) (Nat.le_of_ble_eq_true rfl) (fun X C hQ hin => ?_)
  have C : Cx E X cX1_ageAll 4 RX1 (some .int) 2 80 0 0 := C
  refine mg_iconst (v := 0) C dX1_ageAll_0 (by decide) ?_
  refine mg_istore_n C dX1_ageAll_1 rfl ?_
  refine mg_lve (lv' := [(0, _), (1, _)]) rfl ?_
  refine mg_iconst (v := 0) C dX1_ageAll_2 (by decide) ?_
  refine mg_istore_n C dX1_ageAll_3 rfl ?_
  refine mg_lve (lv' := [(0, _), (1, _), (2, _)]) rfl ?_
  refine mg_iload_n C dX1_ageAll_4 rfl ?_
  refine mg_aload_n C dX1_ageAll_5 rfl ?_
  refine mg_get C inG_X1 fX1_28 (ci := 1) rfl rfl 18 rfl rfl dX1_ageAll_6 ?_
  refine mg_icmp_ge C 55 dX1_ageAll_9 (by decide) (fun h9 => absurd h9 (by decide)) (fun h9 => ?_)
  refine mg_iconst (v := 0) C dX1_ageAll_12 (by decide) ?_
  refine mg_istore_n C dX1_ageAll_13 rfl ?_
  refine mg_lve (lv' := [(0, _), (1, _), (2, _), (3, _)]) rfl ?_
  refine mg_iload_n C dX1_ageAll_14 rfl ?_
  refine mg_aload_n C dX1_ageAll_15 rfl ?_
  refine mg_get C inG_X1 fX1_32 (ci := 1) rfl rfl 18 rfl rfl dX1_ageAll_16 ?_
  refine mg_icmp_ge C 49 dX1_ageAll_19 (by decide) (fun h19 => absurd h19 (by decide)) (fun h19 => ?_)
  refine mg_iload_n C dX1_ageAll_22 rfl ?_
  refine mg_aload_n C dX1_ageAll_23 rfl ?_
  refine mg_aload_n C dX1_ageAll_24 rfl ?_
  refine mg_iload_n C dX1_ageAll_25 rfl ?_
  refine mg_iload_n C dX1_ageAll_26 rfl ?_
  refine mg_callV C (ct_X1_place E _ _ _ _ _ _ _ _) oX1_55 18 rfl rfl rfl rfl rfl dX1_ageAll_27 (fun o27 w27 z27 => ?_)
  obtain ⟨rfl, rfl⟩ := z27
  refine mg_v ?_
  refine mg_callV C (cf_ageOne E _ _ _ hs1 hs0) oX1_64 18 rfl rfl rfl rfl rfl dX1_ageAll_30 (fun o30 w30 z30 => ?_)
  obtain ⟨rfl, a2, hs1, hs0, rfl⟩ := z30
  refine mg_v ?_
  refine mg_if_eq C 40 dX1_ageAll_33 (by decide) (fun h33 => ?_) (fun h33 => absurd h33 (by decide))
  refine mg_iconst (v := 0) C dX1_ageAll_40 (by decide) ?_
  refine mg_iadd C dX1_ageAll_41 ?_
  refine mg_istore_n C dX1_ageAll_42 rfl ?_
  refine mg_lve (lv' := [(0, _), (1, _), (2, _), (3, _)]) rfl ?_
  refine mg_iinc C dX1_ageAll_43 rfl rfl ?_
  refine mg_lve (lv' := [(0, _), (1, _), (2, _), (3, _)]) rfl ?_
  refine mg_goto C 14 dX1_ageAll_46 (by decide) ?_
  refine mg_iload_n C dX1_ageAll_14 rfl ?_
  refine mg_aload_n C dX1_ageAll_15 rfl ?_
  refine mg_get C inG_X1 fX1_32 (ci := 1) rfl rfl 18 rfl rfl dX1_ageAll_16 ?_
  refine mg_icmp_ge C 49 dX1_ageAll_19 (by decide) (fun h19 => ?_) (fun h19 => absurd h19 (by decide))
  refine mg_iinc C dX1_ageAll_49 rfl rfl ?_
  refine mg_lve (lv' := [(0, _), (1, _), (2, _), (3, _)]) rfl ?_
  refine mg_goto C 4 dX1_ageAll_52 (by decide) ?_
  refine mg_iload_n C dX1_ageAll_4 rfl ?_
  refine mg_aload_n C dX1_ageAll_5 rfl ?_
  refine mg_get C inG_X1 fX1_28 (ci := 1) rfl rfl 18 rfl rfl dX1_ageAll_6 ?_
  refine mg_icmp_ge C 55 dX1_ageAll_9 (by decide) (fun h9 => ?_) (fun h9 => absurd h9 (by decide))
  refine mg_iload_n C dX1_ageAll_55 rfl ?_
  exact mg_iret C hQ dX1_ageAll_56 (⟨rfl, _, hs1, hs0, rfl⟩)
set_option maxHeartbeats 400000 in
set_option maxRecDepth 100000 in
theorem ct_X4_fade (E : En) (ad : Nat → Nat) (tl : va_W) (k : Int32) : Ct E mX4_fade 3 0 0 [.ref (ad 19), .int k] (cw E ad 16 gF aF vF tl) (fun o w => o = some (.int (anFade k)) ∧ ∃ L : va_W, w = L ++ tl) := by
  refine Ct.of (by decide) (Nat.le_of_ble_eq_true rfl) (fun X C hQ hin => ?_)
  have C : Cx E X cX4_fade 4 RX4 (some .int) 3 120 0 0 := C
  have loop : ∀ (kk : Nat), kk < 1000 → Cx E X cX4_fade 4 RX4 (some .int) 3 120 0 0 → (some (Value.int 0) = some (Value.int (anFade (nI kk)))) → Rt E X (fun o w => o = some (.int (anFade (nI kk))) ∧ ∃ L : va_W, w = L ++ tl) 0 0 → ∀ (m i : Nat) (a : Nat → Nat → Int32), kk < i + m → i ≤ kk → a 1 0 = -1 → a 0 0 = 0 → GG E X (cw E ad 16 gF a vF tl) 0 0 17 [(0, .ref (ad 19)), (1, .int (nI kk)), (2, .int 0), (3, .int (nI i))] [] := by
    intro kk hkk C hans hQ m
    induction m with
    | zero => intro i a hm hi; omega
    | succ m ih =>
      intro i a hm hi hs1 hs0
      refine mg_iload_n C dX4_fade_17 rfl ?_
      refine mg_iload_n C dX4_fade_18 rfl ?_
      refine mg_icmp_ge C 38 dX4_fade_19 (by decide) (fun h19 => ?_) (fun h19 => ?_)
      · refine mg_iload_n C dX4_fade_38 rfl ?_
        exact mg_iret C hQ dX4_fade_39 (⟨hans, zx⟩)
      · have hlt : i < kk := (by rcases Nat.lt_or_ge i kk with q | q; exact q; exact absurd (nI_le q (by omega)) h19)
        refine mg_iload_n C dX4_fade_22 rfl ?_
        refine mg_aload_n C dX4_fade_23 rfl ?_
        refine mg_get C inG_X4 fX4_10 (ci := 4) rfl rfl 19 rfl rfl dX4_fade_24 ?_
        refine mg_callVN C (cf_ageAll E _ _ _ hs1 hs0) oX4_151 18 rfl rfl rfl rfl rfl dX4_fade_27 (fun o27 w27 z27 => ?_)
        obtain ⟨rfl, a2, hs1, hs0, rfl⟩ := z27
        refine mg_v ?_
        refine mg_iadd C dX4_fade_30 ?_
        refine mg_istore_n C dX4_fade_31 rfl ?_
        refine mg_lve (lv' := [(0, _), (1, _), (2, _), (3, _)]) rfl ?_
        refine mg_iinc C dX4_fade_32 rfl rfl ?_
        refine mg_lve (lv' := [(0, _), (1, _), (2, _), (3, _)]) rfl ?_
        refine mg_goto C 17 dX4_fade_35 (by decide) ?_
        refine mg_lve (lv' := [(0, .ref (ad 19)), (1, .int (nI kk)), (2, .int 0), (3, .int (nI (i + 1)))]) (by rw [nI_succ]; rfl) ?_
        exact ih (i + 1) _ (by omega) hlt hs1 hs0
  refine mg_iload_n C dX4_fade_0 rfl ?_
  refine mg_iconst (v := 1) C dX4_fade_1 (by decide) ?_
  refine mg_bipush (v := 100) C dX4_fade_2 (by decide) ?_
  refine mg_callS C (ct_X4_within E _ _ _ _) oX4_39 rfl rfl rfl dX4_fade_4 (fun o4 w4 z4 => ?_)
  obtain ⟨rfl, rfl⟩ := z4
  refine mg_v ?_
  refine mg_if_ne C 13 dX4_fade_7 (by decide) (fun h7 => ?_) (fun h7 => ?_)
  · refine mg_iconst (v := 0) C dX4_fade_13 (by decide) ?_
    refine mg_istore_n C dX4_fade_14 rfl ?_
    refine mg_lve (lv' := [(0, _), (1, _), (2, _)]) rfl ?_
    refine mg_iconst (v := 0) C dX4_fade_15 (by decide) ?_
    refine mg_istore_n C dX4_fade_16 rfl ?_
    refine mg_lve (lv' := [(0, _), (1, _), (2, _), (3, _)]) rfl ?_
    obtain ⟨kk, hk, h1, h2⟩ := wi_nat h7 (by decide)
    subst hk
    have f100 : (100 : Int32).toInt = 100 := rfl
    rw [f100] at h2
    exact loop kk (by omega) C (by rw [anFade, if_neg h7]) hQ (kk + 1) 0 aF (by omega) (by omega) rfl rfl
  · refine mg_bipush (v := (-2)) C dX4_fade_10 (by decide) ?_
    exact mg_iret C hQ dX4_fade_12 (⟨by rw [anFade, if_pos h7] <;> first | rfl | decide, zx⟩)
theorem lvk3 {p0 p1 p2 p3 p4 : Value} {q : Nat × Value} (h : q ∈ ([(0, p0), (1, p1), (2, p2), (3, p3)] : List (Nat × Value))) : q ∈ ([(0, p0), (1, p1), (2, p2), (3, p3), (4, p4)] : List (Nat × Value)) := by
  simp only [List.mem_cons, List.not_mem_nil, or_false] at h ⊢
  rcases h with h | h | h | h
  · exact Or.inl h
  · exact Or.inr (Or.inl h)
  · exact Or.inr (Or.inr (Or.inl h))
  · exact Or.inr (Or.inr (Or.inr (Or.inl h)))
set_option maxHeartbeats 400000 in
set_option maxRecDepth 100000 in
theorem ct_X5_fade (E : En) (ad : Nat → Nat) (tl : va_W) (k : Int32) : Ct E mX5_fade 1 0 0 [.ref (ad 17), .int k] (mw E ad gF aF vF tl) (fun o w => o = some (.int (anFade k)) ∧ True) := by
  refine Ct.of (by decide) (Nat.le_of_ble_eq_true rfl) (fun X C hQ hin => ?_)
  have C : Cx E X cX5_fade 5 RX5 (some .int) 1 40 0 0 := C
  have inner : ∀ (kk : Nat), kk < 1000 → ∀ (i : Nat), Cx E X cX5_fade 5 RX5 (some .int) 1 40 0 0 → Rt E X (fun o w => o = some (.int (anFade (nI kk))) ∧ True) 0 0 → (some (Value.int 0) = some (Value.int (anFade (nI kk)))) → (∀ a : Nat → Nat → Int32, a 1 0 = -1 → a 0 0 = 0 → GG E X (mw E ad gF a vF tl) 0 0 129 [(0, .ref (ad 17)), (1, .int (nI kk)), (2, .int 0), (3, .int (nI i)), (4, .int (nI 24))] []) → ∀ (m xx : Nat) (a : Nat → Nat → Int32), 24 < xx + m → xx ≤ 24 → a 1 0 = -1 → a 0 0 = 0 → GG E X (mw E ad gF a vF tl) 0 0 25 [(0, .ref (ad 17)), (1, .int (nI kk)), (2, .int 0), (3, .int (nI i)), (4, .int (nI xx))] [] := by
    intro kk hkk i C hQ hans out m
    induction m with
    | zero => intro xx a hm hi; omega
    | succ m ih =>
      intro xx a hm hi hs1 hs0
      refine mg_iload C dX5_fade_25 rfl ?_
      refine mg_bipush (v := 24) C dX5_fade_27 (by decide) ?_
      refine mg_aload_n C dX5_fade_29 rfl ?_
      refine mg_get C inG_X5 fX5_7 (ci := 5) rfl rfl 17 rfl rfl dX5_fade_30 ?_
      refine mg_imul C dX5_fade_33 ?_
      refine mg_icmp_ge C 129 dX5_fade_34 (by decide) (fun h34 => ?_) (fun h34 => ?_)
      · have ex24 : xx = 24 := (by rcases Nat.lt_or_ge xx 24 with q | q; exact absurd h34 (nI_ge (b := 24) q (by decide)); omega)
        subst ex24
        exact out a hs1 hs0
      · have hx24 : xx < 24 := (by rcases Nat.lt_or_ge xx 24 with q | q; exact q; exact absurd (show (24 : Int32) * gF 0 ≤ nI xx from nI_le (a := 24) q (by omega)) h34)
        have e24 : nI xx - nI xx / 24 * 24 = nI xx := (by have e := pk_rem (a := xx) (d := 24) (by omega) (by omega) (by decide); rw [Nat.mod_eq_of_lt hx24] at e; exact e)
        refine mg_iload C dX5_fade_37 rfl ?_
        refine mg_bipush (v := 24) C dX5_fade_39 (by decide) ?_
        refine mg_irem C dX5_fade_41 (by decide) ?_
        refine mg_aload_n C dX5_fade_42 rfl ?_
        refine mg_get C inG_X5 fX5_13 (ci := 5) rfl rfl 17 rfl rfl dX5_fade_43 ?_
        refine mg_icmp_ge C 123 dX5_fade_46 (by decide) (fun h46 => ?_) (fun h46 => ?_)
        · refine mg_iinc C dX5_fade_123 rfl rfl ?_
          refine mg_lve (lv' := [(0, _), (1, _), (2, _), (3, _), (4, _)]) rfl ?_
          refine mg_goto C 25 dX5_fade_126 (by decide) ?_
          refine mg_lve (lv' := [(0, .ref (ad 17)), (1, .int (nI kk)), (2, .int 0), (3, .int (nI i)), (4, .int (nI (xx + 1)))]) (by rw [nI_succ]; rfl) ?_
          exact ih (xx + 1) _ (by omega) (by omega) hs1 hs0
        · have ex0 : xx = 0 := (by rw [e24] at h46; rcases Nat.eq_zero_or_pos xx with q | q; exact q; exact absurd (show gF 1 ≤ nI xx from nI_le (a := 1) q (by omega)) h46)
          subst ex0
          have hx0 : vp_in (nI 0) 192 := vp_in_nI (by decide) (by decide)
          refine mg_aload_n C dX5_fade_49 rfl ?_
          refine mg_get C inG_X5 fX5_23 (ci := 5) rfl rfl 17 rfl rfl dX5_fade_50 ?_
          refine mg_iload C dX5_fade_53 rfl ?_
          refine mg_iald C 15 rfl (hx0) dX5_fade_55 ?_
          refine mg_iconst (v := (-1)) C dX5_fade_56 (by decide) ?_
          refine mg_icmp_ne C 123 dX5_fade_57 (by decide) (fun h57 => absurd h57 (fun hh => hh hs1)) (fun h57 => ?_)
          refine mg_aload_n C dX5_fade_60 rfl ?_
          refine mg_get C inG_X5 fX5_26 (ci := 5) rfl rfl 17 rfl rfl dX5_fade_61 ?_
          refine mg_iload C dX5_fade_64 rfl ?_
          refine mg_dup2_11 C dX5_fade_66 rfl rfl ?_
          refine mg_iald C 14 rfl (hx0) dX5_fade_67 ?_
          refine mg_iconst (v := 1) C dX5_fade_68 (by decide) ?_
          refine mg_iadd C dX5_fade_69 ?_
          refine mg_topi (fun zv70 ezv70 => ?_)
          refine mg_iast C 14 rfl (hx0) dX5_fade_70 (ws' := (mw E ad gF (ups a 2 ((nI 0) : Int32).toNatClampNeg zv70) vF tl)) rfl ?_
          refine mg_aload_n C dX5_fade_71 rfl ?_
          refine mg_get C inG_X5 fX5_19 (ci := 5) rfl rfl 17 rfl rfl dX5_fade_72 ?_
          refine mg_iload C dX5_fade_75 rfl ?_
          refine mg_iald C 16 rfl (hx0) dX5_fade_77 ?_
          refine mg_if_le C 123 dX5_fade_78 (by decide) (fun h78 => ?_) (fun h78 => absurd h78 (fun hh => hh (by show a 0 0 ≤ 0; rw [hs0]; exact Int32.le_refl 0)))
          refine mg_iinc C dX5_fade_123 rfl rfl ?_
          refine mg_lve (lv' := [(0, _), (1, _), (2, _), (3, _), (4, _)]) rfl ?_
          refine mg_goto C 25 dX5_fade_126 (by decide) ?_
          refine mg_lve (lv' := [(0, .ref (ad 17)), (1, .int (nI kk)), (2, .int 0), (3, .int (nI i)), (4, .int (nI 1))]) rfl ?_
          exact ih 1 _ (by omega) (by omega) hs1 hs0
  have loop : ∀ (kk : Nat), kk < 1000 → Cx E X cX5_fade 5 RX5 (some .int) 1 40 0 0 → (some (Value.int 0) = some (Value.int (anFade (nI kk)))) → Rt E X (fun o w => o = some (.int (anFade (nI kk))) ∧ True) 0 0 → ∀ (m i : Nat) (a : Nat → Nat → Int32), kk < i + m → i ≤ kk → a 1 0 = -1 → a 0 0 = 0 → GG E X (mw E ad gF a vF tl) 0 0 17 [(0, .ref (ad 17)), (1, .int (nI kk)), (2, .int 0), (3, .int (nI i))] [] := by
    intro kk hkk C hans hQ m
    induction m with
    | zero => intro i a hm hi; omega
    | succ m ih =>
      intro i a hm hi hs1 hs0
      refine mg_iload_n C dX5_fade_17 rfl ?_
      refine mg_iload_n C dX5_fade_18 rfl ?_
      refine mg_icmp_ge C 135 dX5_fade_19 (by decide) (fun h19 => ?_) (fun h19 => ?_)
      · refine mg_iload_n C dX5_fade_135 rfl ?_
        exact mg_iret C hQ dX5_fade_136 (⟨hans, trivial⟩)
      · have hlt : i < kk := (by rcases Nat.lt_or_ge i kk with q | q; exact q; exact absurd (nI_le q (by omega)) h19)
        refine mg_iconst (v := 0) C dX5_fade_22 (by decide) ?_
        refine mg_istore C dX5_fade_23 rfl ?_
        refine mg_lve (lv' := [(0, _), (1, _), (2, _), (3, _), (4, _)]) rfl ?_
        exact inner kk hkk i C hQ hans (fun a hs1 hs0 => by
          refine mg_iinc C dX5_fade_129 rfl rfl ?_
          refine mg_goto C 17 dX5_fade_132 (by decide) ?_
          refine mg_lv (lv' := [(0, .ref (ad 17)), (1, .int (nI kk)), (2, .int 0), (3, .int (nI (i + 1)))]) (by rw [nI_succ]; intro q hq; exact lvk3 hq) ?_
          exact ih (i + 1) a (by omega) hlt hs1 hs0) 25 0 a (by omega) (by omega) hs1 hs0
  refine mg_iload_n C dX5_fade_0 rfl ?_
  refine mg_iconst (v := 1) C dX5_fade_1 (by decide) ?_
  refine mg_bipush (v := 100) C dX5_fade_2 (by decide) ?_
  refine mg_callS C (ct_X5_in E _ _ _ _) oX5_98 rfl rfl rfl dX5_fade_4 (fun o4 w4 z4 => ?_)
  obtain ⟨rfl, rfl⟩ := z4
  refine mg_v ?_
  refine mg_if_ne C 13 dX5_fade_7 (by decide) (fun h7 => ?_) (fun h7 => ?_)
  · refine mg_iconst (v := 0) C dX5_fade_13 (by decide) ?_
    refine mg_istore_n C dX5_fade_14 rfl ?_
    refine mg_lve (lv' := [(0, _), (1, _), (2, _)]) rfl ?_
    refine mg_iconst (v := 0) C dX5_fade_15 (by decide) ?_
    refine mg_istore_n C dX5_fade_16 rfl ?_
    refine mg_lve (lv' := [(0, _), (1, _), (2, _), (3, _)]) rfl ?_
    obtain ⟨kk, hk, h1, h2⟩ := wi_nat h7 (by decide)
    subst hk
    have f100 : (100 : Int32).toInt = 100 := rfl
    rw [f100] at h2
    exact loop kk (by omega) C (by rw [anFade, if_neg h7]) hQ (kk + 1) 0 aF (by omega) (by omega) rfl rfl
  · refine mg_bipush (v := (-2)) C dX5_fade_10 (by decide) ?_
    exact mg_iret C hQ dX5_fade_12 (⟨by rw [anFade, if_pos h7] <;> first | rfl | decide, trivial⟩)
theorem y01 {y : Int32} (h : ¬ wi y 0 (gF 2) = 0) : y = 0 ∨ y = 1 := by
  obtain ⟨j, e, h1, h2⟩ := wi_nat h (by decide)
  have f1 : (gF 2).toInt = 1 := rfl
  rw [f1] at h2
  rcases (by omega : j = 0 ∨ j = 1) with q | q
  · subst q; exact Or.inl e
  · subst q; exact Or.inr e
set_option maxHeartbeats 400000 in
set_option maxRecDepth 100000 in
theorem cf_pulse0 (E : En) (ad : Nat → Nat) (tl : va_W)   : Ct E mX1_pulseTo 1 0 0 [.ref (ad 18), .int (0 * 24 + 0), .int 0] (cw E ad 16 gF aF vF tl) (fun o w => o = some (.int 0) ∧ ∃ L : va_W, w = L ++ tl) := by
  refine Ct.of (by decide) (Nat.le_of_ble_eq_true rfl) (fun X C hQ hin => ?_)
  have C : Cx E X cX1_pulseTo 4 RX1 (some .int) 1 40 0 0 := C
  refine mg_iconst (v := 0) C dX1_pulseTo_0 (by decide) ?_
  refine mg_istore_n C dX1_pulseTo_1 rfl ?_
  refine mg_lve (lv' := [(0, _), (1, _), (2, _), (3, _)]) rfl ?_
  refine mg_iload_n C dX1_pulseTo_2 rfl ?_
  refine mg_bipush (v := 40) C dX1_pulseTo_3 (by decide) ?_
  refine mg_icmp_ge C 73 dX1_pulseTo_5 (by decide) (fun h5 => absurd h5 (by decide)) (fun h5 => ?_)
  refine mg_aload_n C dX1_pulseTo_8 rfl ?_
  refine mg_get C inG_X1 fX1_9 (ci := 1) rfl rfl 18 rfl rfl dX1_pulseTo_9 ?_
  refine mg_iload_n C dX1_pulseTo_12 rfl ?_
  refine mg_iald C 17 rfl (vin0) dX1_pulseTo_13 ?_
  refine mg_iload_n C dX1_pulseTo_14 rfl ?_
  refine mg_icmp_eq C 73 dX1_pulseTo_15 (by decide) (fun h15 => ?_) (fun h15 => absurd h15 (by decide))
  refine mg_iload_n C dX1_pulseTo_73 rfl ?_
  exact mg_iret C hQ dX1_pulseTo_74 (⟨rfl, zx⟩)
set_option maxHeartbeats 400000 in
set_option maxRecDepth 100000 in
theorem cf_pulse1 (E : En) (ad : Nat → Nat) (tl : va_W)   : Ct E mX1_pulseTo 1 0 0 [.ref (ad 18), .int (0 * 24 + 0), .int 1] (cw E ad 16 gF aF vF tl) (fun o w => o = some (.int 1) ∧ ∃ L : va_W, w = L ++ tl) := by
  refine Ct.of (by decide) (Nat.le_of_ble_eq_true rfl) (fun X C hQ hin => ?_)
  have C : Cx E X cX1_pulseTo 4 RX1 (some .int) 1 40 0 0 := C
  refine mg_iconst (v := 0) C dX1_pulseTo_0 (by decide) ?_
  refine mg_istore_n C dX1_pulseTo_1 rfl ?_
  refine mg_lve (lv' := [(0, _), (1, _), (2, _), (3, _)]) rfl ?_
  refine mg_iload_n C dX1_pulseTo_2 rfl ?_
  refine mg_bipush (v := 40) C dX1_pulseTo_3 (by decide) ?_
  refine mg_icmp_ge C 73 dX1_pulseTo_5 (by decide) (fun h5 => absurd h5 (by decide)) (fun h5 => ?_)
  refine mg_aload_n C dX1_pulseTo_8 rfl ?_
  refine mg_get C inG_X1 fX1_9 (ci := 1) rfl rfl 18 rfl rfl dX1_pulseTo_9 ?_
  refine mg_iload_n C dX1_pulseTo_12 rfl ?_
  refine mg_iald C 17 rfl (vin0) dX1_pulseTo_13 ?_
  refine mg_iload_n C dX1_pulseTo_14 rfl ?_
  refine mg_icmp_eq C 73 dX1_pulseTo_15 (by decide) (fun h15 => absurd h15 (by decide)) (fun h15 => ?_)
  refine mg_aload_n C dX1_pulseTo_18 rfl ?_
  refine mg_get C inG_X1 fX1_9 (ci := 1) rfl rfl 18 rfl rfl dX1_pulseTo_19 ?_
  refine mg_iload_n C dX1_pulseTo_22 rfl ?_
  refine mg_aload_n C dX1_pulseTo_23 rfl ?_
  refine mg_get C inG_X1 fX1_9 (ci := 1) rfl rfl 18 rfl rfl dX1_pulseTo_24 ?_
  refine mg_iload_n C dX1_pulseTo_27 rfl ?_
  refine mg_iald C 17 rfl (vin0) dX1_pulseTo_28 ?_
  refine mg_iload_n C dX1_pulseTo_29 rfl ?_
  refine mg_icmp_ge C 51 dX1_pulseTo_30 (by decide) (fun h30 => absurd h30 (by decide)) (fun h30 => ?_)
  refine mg_aload_n C dX1_pulseTo_33 rfl ?_
  refine mg_get C inG_X1 fX1_9 (ci := 1) rfl rfl 18 rfl rfl dX1_pulseTo_34 ?_
  refine mg_iload_n C dX1_pulseTo_37 rfl ?_
  refine mg_iald C 17 rfl (vin0) dX1_pulseTo_38 ?_
  refine mg_iconst (v := 2) C dX1_pulseTo_39 (by decide) ?_
  refine mg_iadd C dX1_pulseTo_40 ?_
  refine mg_aload_n C dX1_pulseTo_41 rfl ?_
  refine mg_get C inG_X1 fX1_35 (ci := 1) rfl rfl 18 rfl rfl dX1_pulseTo_42 ?_
  refine mg_mmin C dX1_pulseTo_45 oX1_59m rfl ?_
  refine mg_goto C 59 dX1_pulseTo_48 (by decide) ?_
  refine mg_tos (w := .int 1) rfl ?_
  refine mg_iast C 17 rfl (vin0) dX1_pulseTo_59 (ws' := (cw E ad 16 gF (ups aF 0 ((0 * 24 + 0) : Int32).toNatClampNeg 1) vF tl)) rfl ?_
  refine mg_aload_n C dX1_pulseTo_60 rfl ?_
  refine mg_get C inG_X1 fX1_18 (ci := 1) rfl rfl 18 rfl rfl dX1_pulseTo_61 ?_
  refine mg_iload_n C dX1_pulseTo_64 rfl ?_
  refine mg_iconst (v := 0) C dX1_pulseTo_65 (by decide) ?_
  refine mg_iast C 15 rfl (vin0) dX1_pulseTo_66 (ws' := (cw E ad 16 gF (ups (ups aF 0 ((0 * 24 + 0) : Int32).toNatClampNeg 1) 2 ((0 * 24 + 0) : Int32).toNatClampNeg 0) vF tl)) rfl ?_
  refine mg_iinc C dX1_pulseTo_67 rfl rfl ?_
  refine mg_lve (lv' := [(0, _), (1, _), (2, _), (3, _)]) rfl ?_
  refine mg_goto C 2 dX1_pulseTo_70 (by decide) ?_
  refine mg_iload_n C dX1_pulseTo_2 rfl ?_
  refine mg_bipush (v := 40) C dX1_pulseTo_3 (by decide) ?_
  refine mg_icmp_ge C 73 dX1_pulseTo_5 (by decide) (fun h5 => absurd h5 (by decide)) (fun h5 => ?_)
  refine mg_aload_n C dX1_pulseTo_8 rfl ?_
  refine mg_get C inG_X1 fX1_9 (ci := 1) rfl rfl 18 rfl rfl dX1_pulseTo_9 ?_
  refine mg_iload_n C dX1_pulseTo_12 rfl ?_
  refine mg_iald C 17 rfl (vin0) dX1_pulseTo_13 ?_
  refine mg_iload_n C dX1_pulseTo_14 rfl ?_
  refine mg_icmp_eq C 73 dX1_pulseTo_15 (by decide) (fun h15 => ?_) (fun h15 => absurd h15 (by decide))
  refine mg_iload_n C dX1_pulseTo_73 rfl ?_
  exact mg_iret C hQ dX1_pulseTo_74 (⟨rfl, zx⟩)
theorem cf_pulseTo (E : En) (ad : Nat → Nat) (tl : va_W) (y : Int32) (h : ¬ wi y 0 (gF 2) = 0) : Ct E mX1_pulseTo 1 0 0 [.ref (ad 18), .int (0 * 24 + 0), .int y] (cw E ad 16 gF aF vF tl) (fun o w => o = some (.int y) ∧ ∃ L : va_W, w = L ++ tl) := by
  rcases y01 h with rfl | rfl
  · exact cf_pulse0 E ad tl
  · exact cf_pulse1 E ad tl
set_option maxHeartbeats 400000 in
set_option maxRecDepth 100000 in
theorem ct_X4_pulse (E : En) (ad : Nat → Nat) (tl : va_W) (r c y : Int32)  : Ct E mX4_pulse 2 0 0 [.ref (ad 19), .int r, .int c, .int y] (cw E ad 16 gF aF vF tl) (fun o w => o = some (.int (anPulse r c y)) ∧ ∃ L : va_W, w = L ++ tl) := by
  refine Ct.of (by decide) (Nat.le_of_ble_eq_true rfl) (fun X C hQ hin => ?_)
  have C : Cx E X cX4_pulse 5 RX4 (some .int) 2 80 0 0 := C
  refine mg_aload_n C dX4_pulse_0 rfl ?_
  refine mg_get C inG_X4 fX4_10 (ci := 4) rfl rfl 19 rfl rfl dX4_pulse_1 ?_
  refine mg_iload_n C dX4_pulse_4 rfl ?_
  refine mg_iload_n C dX4_pulse_5 rfl ?_
  refine mg_callVN C (ct_X1_hasCell E _ _ _ _ _ _ _ _) oX4_54 18 rfl rfl rfl rfl rfl dX4_pulse_6 (fun o6 w6 z6 => ?_)
  obtain ⟨rfl, rfl⟩ := z6
  refine mg_v ?_
  refine mg_if_eq C 27 dX4_pulse_9 (by decide) (fun h9 => ?_) (fun h9 => ?_)
  · refine mg_bipush (v := (-2)) C dX4_pulse_27 (by decide) ?_
    exact mg_iret C hQ dX4_pulse_29 (⟨by rw [anPulse, if_pos h9] <;> first | rfl | decide, zx⟩)
  · obtain ⟨rfl, rfl⟩ := hcF h9
    refine mg_iload_n C dX4_pulse_12 rfl ?_
    refine mg_iconst (v := 0) C dX4_pulse_13 (by decide) ?_
    refine mg_aload_n C dX4_pulse_14 rfl ?_
    refine mg_get C inG_X4 fX4_10 (ci := 4) rfl rfl 19 rfl rfl dX4_pulse_15 ?_
    refine mg_getN C inG_X1 fX4_58 (ci := 1) rfl rfl 18 rfl rfl dX4_pulse_18 ?_
    refine mg_callS C (ct_X4_within E _ _ _ _) oX4_39 rfl rfl rfl dX4_pulse_21 (fun o21 w21 z21 => ?_)
    obtain ⟨rfl, rfl⟩ := z21
    refine mg_v ?_
    refine mg_if_ne C 30 dX4_pulse_24 (by decide) (fun h24 => ?_) (fun h24 => ?_)
    · refine mg_aload_n C dX4_pulse_30 rfl ?_
      refine mg_get C inG_X4 fX4_10 (ci := 4) rfl rfl 19 rfl rfl dX4_pulse_31 ?_
      refine mg_iload_n C dX4_pulse_34 rfl ?_
      refine mg_iload_n C dX4_pulse_35 rfl ?_
      refine mg_callVN C (ct_X1_place E _ _ _ _ _ _ _ _) oX4_62 18 rfl rfl rfl rfl rfl dX4_pulse_36 (fun o36 w36 z36 => ?_)
      obtain ⟨rfl, rfl⟩ := z36
      refine mg_v ?_
      refine mg_istore C dX4_pulse_39 rfl ?_
      refine mg_lve (lv' := [(0, _), (1, _), (2, _), (3, _), (4, _)]) rfl ?_
      refine mg_aload_n C dX4_pulse_41 rfl ?_
      refine mg_get C inG_X4 fX4_10 (ci := 4) rfl rfl 19 rfl rfl dX4_pulse_42 ?_
      refine mg_iload C dX4_pulse_45 rfl ?_
      refine mg_callVN C (ct_X1_sticks E _ _ _ _ _ _ _ vin0) oX4_154 18 rfl rfl rfl rfl rfl dX4_pulse_47 (fun o47 w47 z47 => ?_)
      obtain ⟨rfl, rfl⟩ := z47
      refine mg_v ?_
      refine mg_if_eq C 58 dX4_pulse_50 (by decide) (fun h50 => ?_) (fun h50 => absurd h50 (fun hh => hh rfl))
      refine mg_aload_n C dX4_pulse_58 rfl ?_
      refine mg_get C inG_X4 fX4_10 (ci := 4) rfl rfl 19 rfl rfl dX4_pulse_59 ?_
      refine mg_iload C dX4_pulse_62 rfl ?_
      refine mg_iload_n C dX4_pulse_64 rfl ?_
      refine mg_callVN C (cf_pulseTo E _ _ _ h24) oX4_158 18 rfl rfl rfl rfl rfl dX4_pulse_65 (fun o65 w65 z65 => ?_)
      obtain ⟨rfl, Lz, rfl⟩ := z65
      refine mg_v ?_
      exact mg_iret C hQ dX4_pulse_68 (⟨by rw [anPulse, if_neg h9, if_neg h24] <;> first | rfl | decide, Lz, rfl⟩)
    · refine mg_bipush (v := (-2)) C dX4_pulse_27 (by decide) ?_
      exact mg_iret C hQ dX4_pulse_29 (⟨by rw [anPulse, if_neg h9, if_pos h24] <;> first | rfl | decide, zx⟩)
set_option maxHeartbeats 400000 in
set_option maxRecDepth 100000 in
theorem tailM0 (E : En) (X : Fx) (ad : Nat → Nat) (tl : va_W) (C : Cx E X cX5_pulse 7 RX5 (some .int) 2 80 0 0) (hQ : Rt E X (fun o w => o = some (.int (0)) ∧ True) 0 0) : GG E X (mw E ad gF aF vF tl) 0 0 24 [(0, .ref (ad 17)), (1, .int 0), (2, .int 0), (3, .int 0)] [] := by
  refine mg_bipush (v := 24) C dX5_pulse_24 (by decide) ?_
  refine mg_iload_n C dX5_pulse_26 rfl ?_
  refine mg_imul C dX5_pulse_27 ?_
  refine mg_iload_n C dX5_pulse_28 rfl ?_
  refine mg_iadd C dX5_pulse_29 ?_
  refine mg_istore C dX5_pulse_30 rfl ?_
  refine mg_lve (lv' := [(0, _), (1, _), (2, _), (3, _), (4, _)]) rfl ?_
  refine mg_aload_n C dX5_pulse_32 rfl ?_
  refine mg_get C inG_X5 fX5_23 (ci := 5) rfl rfl 17 rfl rfl dX5_pulse_33 ?_
  refine mg_iload C dX5_pulse_36 rfl ?_
  refine mg_iald C 15 rfl (vin0') dX5_pulse_38 ?_
  refine mg_iconst (v := (-1)) C dX5_pulse_39 (by decide) ?_
  refine mg_icmp_eq C 46 dX5_pulse_40 (by decide) (fun h40 => ?_) (fun h40 => absurd h40 (by decide))
  refine mg_iconst (v := 0) C dX5_pulse_46 (by decide) ?_
  refine mg_istore C dX5_pulse_47 rfl ?_
  refine mg_lve (lv' := [(0, _), (1, _), (2, _), (3, _), (4, _), (5, _)]) rfl ?_
  refine mg_aload_n C dX5_pulse_49 rfl ?_
  refine mg_get C inG_X5 fX5_19 (ci := 5) rfl rfl 17 rfl rfl dX5_pulse_50 ?_
  refine mg_iload C dX5_pulse_53 rfl ?_
  refine mg_iald C 16 rfl (vin0') dX5_pulse_55 ?_
  refine mg_iload_n C dX5_pulse_56 rfl ?_
  refine mg_icmp_eq C 139 dX5_pulse_57 (by decide) (fun h57 => ?_) (fun h57 => absurd h57 (by decide))
  refine mg_aload_n C dX5_pulse_139 rfl ?_
  refine mg_get C inG_X5 fX5_26 (ci := 5) rfl rfl 17 rfl rfl dX5_pulse_140 ?_
  refine mg_iload C dX5_pulse_143 rfl ?_
  refine mg_iload C dX5_pulse_145 rfl ?_
  refine mg_if_le C 154 dX5_pulse_147 (by decide) (fun h147 => ?_) (fun h147 => absurd h147 (by decide))
  refine mg_aload_n C dX5_pulse_154 rfl ?_
  refine mg_get C inG_X5 fX5_26 (ci := 5) rfl rfl 17 rfl rfl dX5_pulse_155 ?_
  refine mg_iload C dX5_pulse_158 rfl ?_
  refine mg_iald C 14 rfl (vin0') dX5_pulse_160 ?_
  refine mg_topi (fun zv161 ezv161 => ?_)
  refine mg_iast C 14 rfl (vin0') dX5_pulse_161 (ws' := (mw E ad gF (ups aF 2 _ zv161) vF tl)) rfl ?_
  refine mg_iload C dX5_pulse_162 rfl ?_
  exact mg_iret C hQ dX5_pulse_164 (⟨rfl, trivial⟩)
set_option maxHeartbeats 400000 in
set_option maxRecDepth 100000 in
theorem tailM1 (E : En) (X : Fx) (ad : Nat → Nat) (tl : va_W) (C : Cx E X cX5_pulse 7 RX5 (some .int) 2 80 0 0) (hQ : Rt E X (fun o w => o = some (.int (1)) ∧ True) 0 0) : GG E X (mw E ad gF aF vF tl) 0 0 24 [(0, .ref (ad 17)), (1, .int 0), (2, .int 0), (3, .int 1)] [] := by
  refine mg_bipush (v := 24) C dX5_pulse_24 (by decide) ?_
  refine mg_iload_n C dX5_pulse_26 rfl ?_
  refine mg_imul C dX5_pulse_27 ?_
  refine mg_iload_n C dX5_pulse_28 rfl ?_
  refine mg_iadd C dX5_pulse_29 ?_
  refine mg_istore C dX5_pulse_30 rfl ?_
  refine mg_lve (lv' := [(0, _), (1, _), (2, _), (3, _), (4, _)]) rfl ?_
  refine mg_aload_n C dX5_pulse_32 rfl ?_
  refine mg_get C inG_X5 fX5_23 (ci := 5) rfl rfl 17 rfl rfl dX5_pulse_33 ?_
  refine mg_iload C dX5_pulse_36 rfl ?_
  refine mg_iald C 15 rfl (vin0') dX5_pulse_38 ?_
  refine mg_iconst (v := (-1)) C dX5_pulse_39 (by decide) ?_
  refine mg_icmp_eq C 46 dX5_pulse_40 (by decide) (fun h40 => ?_) (fun h40 => absurd h40 (by decide))
  refine mg_iconst (v := 0) C dX5_pulse_46 (by decide) ?_
  refine mg_istore C dX5_pulse_47 rfl ?_
  refine mg_lve (lv' := [(0, _), (1, _), (2, _), (3, _), (4, _), (5, _)]) rfl ?_
  refine mg_aload_n C dX5_pulse_49 rfl ?_
  refine mg_get C inG_X5 fX5_19 (ci := 5) rfl rfl 17 rfl rfl dX5_pulse_50 ?_
  refine mg_iload C dX5_pulse_53 rfl ?_
  refine mg_iald C 16 rfl (vin0') dX5_pulse_55 ?_
  refine mg_iload_n C dX5_pulse_56 rfl ?_
  refine mg_icmp_eq C 139 dX5_pulse_57 (by decide) (fun h57 => absurd h57 (by decide)) (fun h57 => ?_)
  refine mg_iload C dX5_pulse_60 rfl ?_
  refine mg_bipush (v := 40) C dX5_pulse_62 (by decide) ?_
  refine mg_icmp_ge C 139 dX5_pulse_64 (by decide) (fun h64 => absurd h64 (by decide)) (fun h64 => ?_)
  refine mg_aload_n C dX5_pulse_67 rfl ?_
  refine mg_get C inG_X5 fX5_19 (ci := 5) rfl rfl 17 rfl rfl dX5_pulse_68 ?_
  refine mg_iload C dX5_pulse_71 rfl ?_
  refine mg_iald C 16 rfl (vin0') dX5_pulse_73 ?_
  refine mg_iconst (v := 2) C dX5_pulse_74 (by decide) ?_
  refine mg_iadd C dX5_pulse_75 ?_
  refine mg_aload_n C dX5_pulse_76 rfl ?_
  refine mg_get C inG_X5 fX5_16 (ci := 5) rfl rfl 17 rfl rfl dX5_pulse_77 ?_
  refine mg_icmp_le C 90 dX5_pulse_80 (by decide) (fun h80 => absurd h80 (by decide)) (fun h80 => ?_)
  refine mg_aload_n C dX5_pulse_83 rfl ?_
  refine mg_get C inG_X5 fX5_16 (ci := 5) rfl rfl 17 rfl rfl dX5_pulse_84 ?_
  refine mg_goto C 99 dX5_pulse_87 (by decide) ?_
  refine mg_tos (w := .int 1) rfl ?_
  refine mg_istore C dX5_pulse_99 rfl ?_
  refine mg_lve (lv' := [(0, _), (1, _), (2, _), (3, _), (4, _), (5, _), (6, _)]) rfl ?_
  refine mg_aload_n C dX5_pulse_101 rfl ?_
  refine mg_get C inG_X5 fX5_19 (ci := 5) rfl rfl 17 rfl rfl dX5_pulse_102 ?_
  refine mg_iload C dX5_pulse_105 rfl ?_
  refine mg_aload_n C dX5_pulse_107 rfl ?_
  refine mg_get C inG_X5 fX5_19 (ci := 5) rfl rfl 17 rfl rfl dX5_pulse_108 ?_
  refine mg_iload C dX5_pulse_111 rfl ?_
  refine mg_iald C 16 rfl (vin0') dX5_pulse_113 ?_
  refine mg_iload_n C dX5_pulse_114 rfl ?_
  refine mg_icmp_ge C 123 dX5_pulse_115 (by decide) (fun h115 => absurd h115 (by decide)) (fun h115 => ?_)
  refine mg_iload C dX5_pulse_118 rfl ?_
  refine mg_goto C 132 dX5_pulse_120 (by decide) ?_
  refine mg_tos (w := .int 1) rfl ?_
  refine mg_iast C 16 rfl (vin0') dX5_pulse_132 (ws' := (mw E ad gF (ups aF 0 _ 1) vF tl)) rfl ?_
  refine mg_iinc C dX5_pulse_133 rfl rfl ?_
  refine mg_lve (lv' := [(0, _), (1, _), (2, _), (3, _), (4, _), (5, _), (6, _)]) rfl ?_
  refine mg_goto C 49 dX5_pulse_136 (by decide) ?_
  refine mg_aload_n C dX5_pulse_49 rfl ?_
  refine mg_get C inG_X5 fX5_19 (ci := 5) rfl rfl 17 rfl rfl dX5_pulse_50 ?_
  refine mg_iload C dX5_pulse_53 rfl ?_
  refine mg_iald C 16 rfl (vin0') dX5_pulse_55 ?_
  refine mg_iload_n C dX5_pulse_56 rfl ?_
  refine mg_icmp_eq C 139 dX5_pulse_57 (by decide) (fun h57 => ?_) (fun h57 => absurd h57 (by decide))
  refine mg_aload_n C dX5_pulse_139 rfl ?_
  refine mg_get C inG_X5 fX5_26 (ci := 5) rfl rfl 17 rfl rfl dX5_pulse_140 ?_
  refine mg_iload C dX5_pulse_143 rfl ?_
  refine mg_iload C dX5_pulse_145 rfl ?_
  refine mg_if_le C 154 dX5_pulse_147 (by decide) (fun h147 => absurd h147 (by decide)) (fun h147 => ?_)
  refine mg_iconst (v := 0) C dX5_pulse_150 (by decide) ?_
  refine mg_goto C 161 dX5_pulse_151 (by decide) ?_
  refine mg_iast C 14 rfl (vin0') dX5_pulse_161 (ws' := (mw E ad gF (ups (ups aF 0 _ 1) 2 _ 0) vF tl)) rfl ?_
  refine mg_iload C dX5_pulse_162 rfl ?_
  exact mg_iret C hQ dX5_pulse_164 (⟨rfl, trivial⟩)
set_option maxHeartbeats 400000 in
set_option maxRecDepth 100000 in
theorem ct_X5_pulse (E : En) (ad : Nat → Nat) (tl : va_W) (r c y : Int32) : Ct E mX5_pulse 2 0 0 [.ref (ad 17), .int r, .int c, .int y] (mw E ad gF aF vF tl) (fun o w => o = some (.int (anPulse r c y)) ∧ True) := by
  refine Ct.of (by decide) (Nat.le_of_ble_eq_true rfl) (fun X C hQ hin => ?_)
  have C : Cx E X cX5_pulse 7 RX5 (some .int) 2 80 0 0 := C
  refine mg_aload_n C dX5_pulse_0 rfl ?_
  refine mg_iload_n C dX5_pulse_1 rfl ?_
  refine mg_iload_n C dX5_pulse_2 rfl ?_
  refine mg_callV C (ct_X5_isCell E _ _ _ _ _ _ _) oX5_102 17 rfl rfl rfl rfl rfl dX5_pulse_3 (fun o3 w3 z3 => ?_)
  obtain ⟨rfl, rfl⟩ := z3
  refine mg_v ?_
  refine mg_if_eq C 21 dX5_pulse_6 (by decide) (fun h6 => ?_) (fun h6 => ?_)
  · refine mg_bipush (v := (-2)) C dX5_pulse_21 (by decide) ?_
    exact mg_iret C hQ dX5_pulse_23 (⟨by rw [anPulse, if_pos h6] <;> first | rfl | decide, trivial⟩)
  · obtain ⟨rfl, rfl⟩ := hcF h6
    refine mg_iload_n C dX5_pulse_9 rfl ?_
    refine mg_iconst (v := 0) C dX5_pulse_10 (by decide) ?_
    refine mg_aload_n C dX5_pulse_11 rfl ?_
    refine mg_get C inG_X5 fX5_16 (ci := 5) rfl rfl 17 rfl rfl dX5_pulse_12 ?_
    refine mg_callS C (ct_X5_in E _ _ _ _) oX5_98 rfl rfl rfl dX5_pulse_15 (fun o15 w15 z15 => ?_)
    obtain ⟨rfl, rfl⟩ := z15
    refine mg_v ?_
    refine mg_if_ne C 24 dX5_pulse_18 (by decide) (fun h18 => ?_) (fun h18 => ?_)
    · rcases y01 h18 with rfl | rfl
      · exact tailM0 E X ad tl C (by have e : anPulse 0 0 0 = 0 := (by decide +kernel); rw [e] at hQ; exact hQ)
      · exact tailM1 E X ad tl C (by have e : anPulse 0 0 1 = 1 := (by decide +kernel); rw [e] at hQ; exact hQ)
    · refine mg_bipush (v := (-2)) C dX5_pulse_21 (by decide) ?_
      exact mg_iret C hQ dX5_pulse_23 (⟨by rw [anPulse, if_neg h6, if_pos h18] <;> first | rfl | decide, trivial⟩)
def anCount (x : Int32) : Int32 := if x.toInt < 0 ∨ 8 < x.toInt then -2 else if x.toInt < 3 then 1 else 0
set_option maxHeartbeats 400000 in
set_option maxRecDepth 100000 in
theorem cf_sticking (E : En) (ad : Nat → Nat) (tl : va_W)   : Ct E mX1_stickingCells 1 0 0 [.ref (ad 18)] (cw E ad 16 gF aF vF tl) (fun o w => o = some (.int 0) ∧ w = cw E ad 16 gF aF vF tl) := by
  refine Ct.of (by decide) (Nat.le_of_ble_eq_true rfl) (fun X C hQ hin => ?_)
  have C : Cx E X cX1_stickingCells 4 RX1 (some .int) 1 40 0 0 := C
  refine mg_iconst (v := 0) C dX1_stickingCells_0 (by decide) ?_
  refine mg_istore_n C dX1_stickingCells_1 rfl ?_
  refine mg_lve (lv' := [(0, _), (1, _)]) rfl ?_
  refine mg_iconst (v := 0) C dX1_stickingCells_2 (by decide) ?_
  refine mg_istore_n C dX1_stickingCells_3 rfl ?_
  refine mg_lve (lv' := [(0, _), (1, _), (2, _)]) rfl ?_
  refine mg_iload_n C dX1_stickingCells_4 rfl ?_
  refine mg_aload_n C dX1_stickingCells_5 rfl ?_
  refine mg_get C inG_X1 fX1_28 (ci := 1) rfl rfl 18 rfl rfl dX1_stickingCells_6 ?_
  refine mg_icmp_ge C 55 dX1_stickingCells_9 (by decide) (fun h9 => absurd h9 (by decide)) (fun h9 => ?_)
  refine mg_iconst (v := 0) C dX1_stickingCells_12 (by decide) ?_
  refine mg_istore_n C dX1_stickingCells_13 rfl ?_
  refine mg_lve (lv' := [(0, _), (1, _), (2, _), (3, _)]) rfl ?_
  refine mg_iload_n C dX1_stickingCells_14 rfl ?_
  refine mg_aload_n C dX1_stickingCells_15 rfl ?_
  refine mg_get C inG_X1 fX1_32 (ci := 1) rfl rfl 18 rfl rfl dX1_stickingCells_16 ?_
  refine mg_icmp_ge C 49 dX1_stickingCells_19 (by decide) (fun h19 => absurd h19 (by decide)) (fun h19 => ?_)
  refine mg_iload_n C dX1_stickingCells_22 rfl ?_
  refine mg_aload_n C dX1_stickingCells_23 rfl ?_
  refine mg_aload_n C dX1_stickingCells_24 rfl ?_
  refine mg_iload_n C dX1_stickingCells_25 rfl ?_
  refine mg_iload_n C dX1_stickingCells_26 rfl ?_
  refine mg_callV C (ct_X1_place E _ _ _ _ _ _ _ _) oX1_55 18 rfl rfl rfl rfl rfl dX1_stickingCells_27 (fun o27 w27 z27 => ?_)
  obtain ⟨rfl, rfl⟩ := z27
  refine mg_v ?_
  refine mg_callV C (ct_X1_sticks E _ _ _ _ _ _ _ vin0) oX1_51 18 rfl rfl rfl rfl rfl dX1_stickingCells_30 (fun o30 w30 z30 => ?_)
  obtain ⟨rfl, rfl⟩ := z30
  refine mg_v ?_
  refine mg_if_eq C 40 dX1_stickingCells_33 (by decide) (fun h33 => ?_) (fun h33 => absurd h33 (by decide))
  refine mg_iconst (v := 0) C dX1_stickingCells_40 (by decide) ?_
  refine mg_iadd C dX1_stickingCells_41 ?_
  refine mg_istore_n C dX1_stickingCells_42 rfl ?_
  refine mg_lve (lv' := [(0, _), (1, _), (2, _), (3, _)]) rfl ?_
  refine mg_iinc C dX1_stickingCells_43 rfl rfl ?_
  refine mg_lve (lv' := [(0, _), (1, _), (2, _), (3, _)]) rfl ?_
  refine mg_goto C 14 dX1_stickingCells_46 (by decide) ?_
  refine mg_iload_n C dX1_stickingCells_14 rfl ?_
  refine mg_aload_n C dX1_stickingCells_15 rfl ?_
  refine mg_get C inG_X1 fX1_32 (ci := 1) rfl rfl 18 rfl rfl dX1_stickingCells_16 ?_
  refine mg_icmp_ge C 49 dX1_stickingCells_19 (by decide) (fun h19 => ?_) (fun h19 => absurd h19 (by decide))
  refine mg_iinc C dX1_stickingCells_49 rfl rfl ?_
  refine mg_lve (lv' := [(0, _), (1, _), (2, _), (3, _)]) rfl ?_
  refine mg_goto C 4 dX1_stickingCells_52 (by decide) ?_
  refine mg_iload_n C dX1_stickingCells_4 rfl ?_
  refine mg_aload_n C dX1_stickingCells_5 rfl ?_
  refine mg_get C inG_X1 fX1_28 (ci := 1) rfl rfl 18 rfl rfl dX1_stickingCells_6 ?_
  refine mg_icmp_ge C 55 dX1_stickingCells_9 (by decide) (fun h9 => ?_) (fun h9 => absurd h9 (by decide))
  refine mg_iload_n C dX1_stickingCells_55 rfl ?_
  exact mg_iret C hQ dX1_stickingCells_56 (⟨rfl, rfl⟩)
set_option maxHeartbeats 400000 in
set_option maxRecDepth 100000 in
theorem ct_X4_count (E : En) (ad : Nat → Nat) (tl : va_W) (xx : Int32) : Ct E mX4_count 2 0 0 [.ref (ad 19), .int xx] (cw E ad 16 gF aF vF tl) (fun o w => o = some (.int (anCount xx)) ∧ w = (cw E ad 16 gF aF vF tl)) := by
  refine Ct.of (by decide) (Nat.le_of_ble_eq_true rfl) (fun X C hQ hin => ?_)
  have C : Cx E X cX4_count 2 RX4 (some .int) 2 80 0 0 := C
  refine mg_iload_n C dX4_count_0 rfl ?_
  by_cases hx : xx.toInt < 0 ∨ 8 < xx.toInt
  · refine mg_tabOut C 140 dX4_count_1 hx (by decide) ?_
    refine mg_bipush (v := (-2)) C dX4_count_140 (by decide) ?_
    exact mg_iret C hQ dX4_count_142 (⟨by rw [anCount, if_pos hx], rfl⟩)
  · obtain ⟨j, hj, e⟩ := nI_of (x := xx) (fun hh => hx (Or.inl (by rw [Int32.lt_iff_toInt_lt] at hh; exact hh)))
    subst e
    have hj8 : j ≤ 8 := (by rw [nI_toInt hj] at hx; omega)
    rcases (by omega : j = 0 ∨ j = 1 ∨ j = 2 ∨ j = 3 ∨ j = 4 ∨ j = 5 ∨ j = 6 ∨ j = 7 ∨ j = 8) with rfl | rfl | rfl | rfl | rfl | rfl | rfl | rfl | rfl
    · refine mg_tabIn C 52 dX4_count_1 (by decide) (by decide) rfl (by decide) ?_
      refine mg_aload_n C dX4_count_52 rfl ?_
      refine mg_get C inG_X4 fX4_10 (ci := 4) rfl rfl 19 rfl rfl dX4_count_53 ?_
      refine mg_getN C inG_X1 fX4_79 (ci := 1) rfl rfl 18 rfl rfl dX4_count_56 ?_
      exact mg_iret C hQ dX4_count_59 (⟨congrArg (fun z => some (Value.int z)) (by decide +kernel), rfl⟩)
    · refine mg_tabIn C 60 dX4_count_1 (by decide) (by decide) rfl (by decide) ?_
      refine mg_aload_n C dX4_count_60 rfl ?_
      refine mg_get C inG_X4 fX4_10 (ci := 4) rfl rfl 19 rfl rfl dX4_count_61 ?_
      refine mg_getN C inG_X1 fX4_89 (ci := 1) rfl rfl 18 rfl rfl dX4_count_64 ?_
      exact mg_iret C hQ dX4_count_67 (⟨congrArg (fun z => some (Value.int z)) (by decide +kernel), rfl⟩)
    · refine mg_tabIn C 68 dX4_count_1 (by decide) (by decide) rfl (by decide) ?_
      refine mg_aload_n C dX4_count_68 rfl ?_
      refine mg_get C inG_X4 fX4_10 (ci := 4) rfl rfl 19 rfl rfl dX4_count_69 ?_
      refine mg_getN C inG_X1 fX4_58 (ci := 1) rfl rfl 18 rfl rfl dX4_count_72 ?_
      exact mg_iret C hQ dX4_count_75 (⟨congrArg (fun z => some (Value.int z)) (by decide +kernel), rfl⟩)
    · refine mg_tabIn C 76 dX4_count_1 (by decide) (by decide) rfl (by decide) ?_
      refine mg_aload_n C dX4_count_76 rfl ?_
      refine mg_get C inG_X4 fX4_10 (ci := 4) rfl rfl 19 rfl rfl dX4_count_77 ?_
      refine mg_callVN C (cf_sticking E _ _) oX4_182 18 rfl rfl rfl rfl rfl dX4_count_80 (fun o80 w80 z80 => ?_)
      obtain ⟨rfl, rfl⟩ := z80
      refine mg_v ?_
      exact mg_iret C hQ dX4_count_83 (⟨congrArg (fun z => some (Value.int z)) (by decide +kernel), rfl⟩)
    · refine mg_tabIn C 84 dX4_count_1 (by decide) (by decide) rfl (by decide) ?_
      refine mg_aload_n C dX4_count_84 rfl ?_
      refine mg_get C inG_X4 fX4_21 (ci := 4) rfl rfl 19 rfl rfl dX4_count_85 ?_
      refine mg_getN C inG_X3 fX4_102 (ci := 3) rfl rfl 13 rfl rfl dX4_count_88 ?_
      exact mg_iret C hQ dX4_count_91 (⟨congrArg (fun z => some (Value.int z)) (by decide +kernel), rfl⟩)
    · refine mg_tabIn C 92 dX4_count_1 (by decide) (by decide) rfl (by decide) ?_
      refine mg_aload_n C dX4_count_92 rfl ?_
      refine mg_get C inG_X4 fX4_21 (ci := 4) rfl rfl 19 rfl rfl dX4_count_93 ?_
      refine mg_getN C inG_X3 fX4_105 (ci := 3) rfl rfl 13 rfl rfl dX4_count_96 ?_
      exact mg_iret C hQ dX4_count_99 (⟨congrArg (fun z => some (Value.int z)) (by decide +kernel), rfl⟩)
    · refine mg_tabIn C 100 dX4_count_1 (by decide) (by decide) rfl (by decide) ?_
      refine mg_aload_n C dX4_count_100 rfl ?_
      refine mg_get C inG_X4 fX4_21 (ci := 4) rfl rfl 19 rfl rfl dX4_count_101 ?_
      refine mg_getN C inG_X3 fX4_185 (ci := 3) rfl rfl 13 rfl rfl dX4_count_104 ?_
      exact mg_iret C hQ dX4_count_107 (⟨congrArg (fun z => some (Value.int z)) (by decide +kernel), rfl⟩)
    · refine mg_tabIn C 108 dX4_count_1 (by decide) (by decide) rfl (by decide) ?_
      refine mg_aload_n C dX4_count_108 rfl ?_
      refine mg_get C inG_X4 fX4_21 (ci := 4) rfl rfl 19 rfl rfl dX4_count_109 ?_
      refine mg_getN C inG_X3 fX4_124 (ci := 3) rfl rfl 13 rfl rfl dX4_count_112 ?_
      refine mg_if_eq C 122 dX4_count_115 (by decide) (fun h115 => ?_) (fun h115 => absurd h115 (by decide))
      refine mg_iconst (v := 0) C dX4_count_122 (by decide) ?_
      exact mg_iret C hQ dX4_count_123 (⟨congrArg (fun z => some (Value.int z)) (by decide +kernel), rfl⟩)
    · refine mg_tabIn C 124 dX4_count_1 (by decide) (by decide) rfl (by decide) ?_
      refine mg_aload_n C dX4_count_124 rfl ?_
      refine mg_get C inG_X4 fX4_28 (ci := 4) rfl rfl 19 rfl rfl dX4_count_125 ?_
      refine mg_getN C inG_X0 fX4_50 (ci := 0) rfl rfl 7 rfl rfl dX4_count_128 ?_
      refine mg_if_eq C 138 dX4_count_131 (by decide) (fun h131 => ?_) (fun h131 => absurd h131 (by decide))
      refine mg_iconst (v := 0) C dX4_count_138 (by decide) ?_
      exact mg_iret C hQ dX4_count_139 (⟨congrArg (fun z => some (Value.int z)) (by decide +kernel), rfl⟩)
set_option maxHeartbeats 400000 in
set_option maxRecDepth 100000 in
theorem cntM (E : En) (X : Fx) (ad : Nat → Nat) (tl : va_W) (C : Cx E X cX5_count 4 RX5 (some .int) 0 0 0 0) (hQ : Rt E X (fun o w => o = some (.int 0) ∧ w = mw E ad gF aF vF tl) 0 0) : ∀ (m i : Nat), 192 < i + m → i ≤ 192 → GG E X (mw E ad gF aF vF tl) 0 0 69 [(0, .ref (ad 17)), (1, .int (nI 3)), (2, .int 0), (3, .int (nI i))] [] := by
  intro m
  induction m with
  | zero => intro i hm hi; omega
  | succ m ih =>
    intro i hm hi
    refine mg_iload_n C dX5_count_69 rfl ?_
    refine mg_sipush (v := 192) C dX5_count_70 (by decide) ?_
    refine mg_icmp_ge C 100 dX5_count_73 (by decide) (fun h73 => ?_) (fun h73 => ?_)
    · refine mg_iload_n C dX5_count_100 rfl ?_
      exact mg_iret C hQ dX5_count_101 (⟨rfl, rfl⟩)
    · have hlt : i < 192 := (by rcases Nat.lt_or_ge i 192 with q | q; exact q; exact absurd (show (192 : Int32) ≤ nI i from nI_le (a := 192) q (by omega)) h73)
      have hin3 : vp_in (nI i) 192 := vp_in_nI hlt (by omega)
      refine mg_iload_n C dX5_count_76 rfl ?_
      refine mg_aload_n C dX5_count_77 rfl ?_
      refine mg_get C inG_X5 fX5_23 (ci := 5) rfl rfl 17 rfl rfl dX5_count_78 ?_
      refine mg_iload_n C dX5_count_81 rfl ?_
      refine mg_iald C 15 rfl (hin3) dX5_count_82 ?_
      refine mg_iconst (v := (-1)) C dX5_count_83 (by decide) ?_
      refine mg_icmp_ne C 91 dX5_count_84 (by decide) (fun h84 => absurd h84 (fun hh => hh rfl)) (fun h84 => ?_)
      refine mg_iconst (v := 0) C dX5_count_87 (by decide) ?_
      refine mg_goto C 92 dX5_count_88 (by decide) ?_
      refine mg_iadd C dX5_count_92 ?_
      refine mg_istore_n C dX5_count_93 rfl ?_
      refine mg_lve (lv' := [(0, _), (1, _), (2, _), (3, _)]) rfl ?_
      refine mg_iinc C dX5_count_94 rfl rfl ?_
      refine mg_lve (lv' := [(0, _), (1, _), (2, _), (3, _)]) rfl ?_
      refine mg_goto C 69 dX5_count_97 (by decide) ?_
      refine mg_lve (lv' := [(0, .ref (ad 17)), (1, .int (nI 3)), (2, .int 0), (3, .int (nI (i + 1)))]) (by rw [nI_succ i]; rfl) ?_
      exact ih (i + 1) (by omega) hlt
set_option maxHeartbeats 400000 in
set_option maxRecDepth 100000 in
theorem ct_X5_count (E : En) (ad : Nat → Nat) (tl : va_W) (xx : Int32) : Ct E mX5_count 0 0 0 [.ref (ad 17), .int xx] (mw E ad gF aF vF tl) (fun o w => o = some (.int (anCount xx)) ∧ w = (mw E ad gF aF vF tl)) := by
  refine Ct.of (by decide) (Nat.le_of_ble_eq_true rfl) (fun X C hQ hin => ?_)
  have C : Cx E X cX5_count 4 RX5 (some .int) 0 0 0 0 := C
  refine mg_iconst (v := 0) C dX5_count_0 (by decide) ?_
  refine mg_istore_n C dX5_count_1 rfl ?_
  refine mg_lve (lv' := [(0, _), (1, _), (2, _)]) rfl ?_
  refine mg_iload_n C dX5_count_2 rfl ?_
  by_cases hx : xx.toInt < 0 ∨ 8 < xx.toInt
  · refine mg_tabOut C 143 dX5_count_3 hx (by decide) ?_
    refine mg_bipush (v := (-2)) C dX5_count_143 (by decide) ?_
    exact mg_iret C hQ dX5_count_145 (⟨by rw [anCount, if_pos hx], rfl⟩)
  · obtain ⟨j, hj, e⟩ := nI_of (x := xx) (fun hh => hx (Or.inl (by rw [Int32.lt_iff_toInt_lt] at hh; exact hh)))
    subst e
    have hj8 : j ≤ 8 := (by rw [nI_toInt hj] at hx; omega)
    rcases (by omega : j = 0 ∨ j = 1 ∨ j = 2 ∨ j = 3 ∨ j = 4 ∨ j = 5 ∨ j = 6 ∨ j = 7 ∨ j = 8) with rfl | rfl | rfl | rfl | rfl | rfl | rfl | rfl | rfl
    · refine mg_tabIn C 52 dX5_count_3 (by decide) (by decide) rfl (by decide) ?_
      refine mg_aload_n C dX5_count_52 rfl ?_
      refine mg_get C inG_X5 fX5_7 (ci := 5) rfl rfl 17 rfl rfl dX5_count_53 ?_
      exact mg_iret C hQ dX5_count_56 (⟨congrArg (fun z => some (Value.int z)) (by decide +kernel), rfl⟩)
    · refine mg_tabIn C 57 dX5_count_3 (by decide) (by decide) rfl (by decide) ?_
      refine mg_aload_n C dX5_count_57 rfl ?_
      refine mg_get C inG_X5 fX5_13 (ci := 5) rfl rfl 17 rfl rfl dX5_count_58 ?_
      exact mg_iret C hQ dX5_count_61 (⟨congrArg (fun z => some (Value.int z)) (by decide +kernel), rfl⟩)
    · refine mg_tabIn C 62 dX5_count_3 (by decide) (by decide) rfl (by decide) ?_
      refine mg_aload_n C dX5_count_62 rfl ?_
      refine mg_get C inG_X5 fX5_16 (ci := 5) rfl rfl 17 rfl rfl dX5_count_63 ?_
      exact mg_iret C hQ dX5_count_66 (⟨congrArg (fun z => some (Value.int z)) (by decide +kernel), rfl⟩)
    · refine mg_tabIn C 67 dX5_count_3 (by decide) (by decide) rfl (by decide) ?_
      refine mg_iconst (v := 0) C dX5_count_67 (by decide) ?_
      refine mg_istore_n C dX5_count_68 rfl ?_
      refine mg_lve (lv' := [(0, _), (1, _), (2, _), (3, _)]) rfl ?_
      exact cntM E X ad tl C (by have e : anCount (nI 3) = 0 := (by decide +kernel); rw [e] at hQ; exact hQ) 193 0 (by omega) (by omega)
    · refine mg_tabIn C 102 dX5_count_3 (by decide) (by decide) rfl (by decide) ?_
      refine mg_aload_n C dX5_count_102 rfl ?_
      refine mg_get C inG_X5 fX5_82 (ci := 5) rfl rfl 17 rfl rfl dX5_count_103 ?_
      exact mg_iret C hQ dX5_count_106 (⟨congrArg (fun z => some (Value.int z)) (by decide +kernel), rfl⟩)
    · refine mg_tabIn C 107 dX5_count_3 (by decide) (by decide) rfl (by decide) ?_
      refine mg_aload_n C dX5_count_107 rfl ?_
      refine mg_get C inG_X5 fX5_85 (ci := 5) rfl rfl 17 rfl rfl dX5_count_108 ?_
      exact mg_iret C hQ dX5_count_111 (⟨congrArg (fun z => some (Value.int z)) (by decide +kernel), rfl⟩)
    · refine mg_tabIn C 112 dX5_count_3 (by decide) (by decide) rfl (by decide) ?_
      refine mg_aload_n C dX5_count_112 rfl ?_
      refine mg_get C inG_X5 fX5_88 (ci := 5) rfl rfl 17 rfl rfl dX5_count_113 ?_
      exact mg_iret C hQ dX5_count_116 (⟨congrArg (fun z => some (Value.int z)) (by decide +kernel), rfl⟩)
    · refine mg_tabIn C 117 dX5_count_3 (by decide) (by decide) rfl (by decide) ?_
      refine mg_aload_n C dX5_count_117 rfl ?_
      refine mg_get C inG_X5 fX5_91 (ci := 5) rfl rfl 17 rfl rfl dX5_count_118 ?_
      refine mg_if_eq C 128 dX5_count_121 (by decide) (fun h121 => ?_) (fun h121 => absurd h121 (by decide))
      refine mg_iconst (v := 0) C dX5_count_128 (by decide) ?_
      exact mg_iret C hQ dX5_count_129 (⟨congrArg (fun z => some (Value.int z)) (by decide +kernel), rfl⟩)
    · refine mg_tabIn C 130 dX5_count_3 (by decide) (by decide) rfl (by decide) ?_
      refine mg_aload_n C dX5_count_130 rfl ?_
      refine mg_get C inG_X5 fX5_95 (ci := 5) rfl rfl 17 rfl rfl dX5_count_131 ?_
      refine mg_if_eq C 141 dX5_count_134 (by decide) (fun h134 => ?_) (fun h134 => absurd h134 (by decide))
      refine mg_iconst (v := 0) C dX5_count_141 (by decide) ?_
      exact mg_iret C hQ dX5_count_142 (⟨congrArg (fun z => some (Value.int z)) (by decide +kernel), rfl⟩)
def anDigest : Int64 := 1813682272483139993
def ga (h : Int64) : Int64 := 31 * (31 * (31 * (31 * h + (tc aF (0 * 24 + 0) 0).toInt64) + (tc aF (0 * 24 + 0) (0 + Int32.ofInt 1)).toInt64) + (tc aF (0 * 24 + 0) (0 + Int32.ofInt 1 + Int32.ofInt 1)).toInt64) + (aF 3 (0 : Int32).toNatClampNeg).toInt64
set_option maxHeartbeats 400000 in
set_option maxRecDepth 100000 in
theorem cf_gAdd (E : En) (ad : Nat → Nat) (tl : va_W) (h : Int64)  : Ct E mX1_addTo 1 0 0 [.ref (ad 18), .long h] (cw E ad 16 gF aF vF tl) (fun o w => o = some (.long (ga h)) ∧ w = cw E ad 16 gF aF vF tl) := by
  refine Ct.of (by decide) (Nat.le_of_ble_eq_true rfl) (fun X C hQ hin => ?_)
  have C : Cx E X cX1_addTo 8 RX1 (some .long) 1 40 0 0 := C
  refine mg_lload_n C dX1_addTo_0 rfl ?_
  refine mg_lstore_n C dX1_addTo_1 rfl ?_
  refine mg_lve (lv' := [(0, _), (1, _), (3, _)]) rfl ?_
  refine mg_iconst (v := 0) C dX1_addTo_2 (by decide) ?_
  refine mg_istore C dX1_addTo_3 rfl ?_
  refine mg_lve (lv' := [(0, _), (1, _), (3, _), (5, _)]) rfl ?_
  refine mg_iload C dX1_addTo_5 rfl ?_
  refine mg_aload_n C dX1_addTo_7 rfl ?_
  refine mg_get C inG_X1 fX1_28 (ci := 1) rfl rfl 18 rfl rfl dX1_addTo_8 ?_
  refine mg_icmp_ge C 75 dX1_addTo_11 (by decide) (fun h11 => absurd h11 (by decide)) (fun h11 => ?_)
  refine mg_iconst (v := 0) C dX1_addTo_14 (by decide) ?_
  refine mg_istore C dX1_addTo_15 rfl ?_
  refine mg_lve (lv' := [(0, _), (1, _), (3, _), (5, _), (6, _)]) rfl ?_
  refine mg_iload C dX1_addTo_17 rfl ?_
  refine mg_aload_n C dX1_addTo_19 rfl ?_
  refine mg_get C inG_X1 fX1_32 (ci := 1) rfl rfl 18 rfl rfl dX1_addTo_20 ?_
  refine mg_icmp_ge C 69 dX1_addTo_23 (by decide) (fun h23 => absurd h23 (by decide)) (fun h23 => ?_)
  refine mg_iconst (v := 0) C dX1_addTo_26 (by decide) ?_
  refine mg_istore C dX1_addTo_27 rfl ?_
  refine mg_lve (lv' := [(0, _), (1, _), (3, _), (5, _), (6, _), (7, _)]) rfl ?_
  refine mg_iload C dX1_addTo_29 rfl ?_
  refine mg_iconst (v := 2) C dX1_addTo_31 (by decide) ?_
  refine mg_icmp_gt C 63 dX1_addTo_32 (by decide) (fun h32 => absurd h32 (by decide)) (fun h32 => ?_)
  refine mg_ldc2 C dX1_addTo_35 kX1_67 ?_
  refine mg_lload_n C dX1_addTo_38 rfl ?_
  refine mg_lmul C dX1_addTo_39 ?_
  refine mg_aload_n C dX1_addTo_40 rfl ?_
  refine mg_aload_n C dX1_addTo_41 rfl ?_
  refine mg_iload C dX1_addTo_42 rfl ?_
  refine mg_iload C dX1_addTo_44 rfl ?_
  refine mg_callV C (ct_X1_place E _ _ _ _ _ _ _ _) oX1_55 18 rfl rfl rfl rfl rfl dX1_addTo_46 (fun o46 w46 z46 => ?_)
  obtain ⟨rfl, rfl⟩ := z46
  refine mg_v ?_
  refine mg_iload C dX1_addTo_49 rfl ?_
  refine mg_callV C (ct_X1_tellCell E _ _ _ _ _ _ _ _ vin0) oX1_69 18 rfl rfl rfl rfl rfl dX1_addTo_51 (fun o51 w51 z51 => ?_)
  obtain ⟨rfl, rfl⟩ := z51
  refine mg_v ?_
  refine mg_i2l C dX1_addTo_54 ?_
  refine mg_ladd C dX1_addTo_55 ?_
  refine mg_lstore_n C dX1_addTo_56 rfl ?_
  refine mg_lve (lv' := [(0, _), (1, _), (3, _), (5, _), (6, _), (7, _)]) rfl ?_
  refine mg_iinc C dX1_addTo_57 rfl rfl ?_
  refine mg_lve (lv' := [(0, _), (1, _), (3, _), (5, _), (6, _), (7, _)]) rfl ?_
  refine mg_goto C 29 dX1_addTo_60 (by decide) ?_
  refine mg_iload C dX1_addTo_29 rfl ?_
  refine mg_iconst (v := 2) C dX1_addTo_31 (by decide) ?_
  refine mg_icmp_gt C 63 dX1_addTo_32 (by decide) (fun h32 => absurd h32 (by decide)) (fun h32 => ?_)
  refine mg_ldc2 C dX1_addTo_35 kX1_67 ?_
  refine mg_lload_n C dX1_addTo_38 rfl ?_
  refine mg_lmul C dX1_addTo_39 ?_
  refine mg_aload_n C dX1_addTo_40 rfl ?_
  refine mg_aload_n C dX1_addTo_41 rfl ?_
  refine mg_iload C dX1_addTo_42 rfl ?_
  refine mg_iload C dX1_addTo_44 rfl ?_
  refine mg_callV C (ct_X1_place E _ _ _ _ _ _ _ _) oX1_55 18 rfl rfl rfl rfl rfl dX1_addTo_46 (fun o46 w46 z46 => ?_)
  obtain ⟨rfl, rfl⟩ := z46
  refine mg_v ?_
  refine mg_iload C dX1_addTo_49 rfl ?_
  refine mg_callV C (ct_X1_tellCell E _ _ _ _ _ _ _ _ vin0) oX1_69 18 rfl rfl rfl rfl rfl dX1_addTo_51 (fun o51 w51 z51 => ?_)
  obtain ⟨rfl, rfl⟩ := z51
  refine mg_v ?_
  refine mg_i2l C dX1_addTo_54 ?_
  refine mg_ladd C dX1_addTo_55 ?_
  refine mg_lstore_n C dX1_addTo_56 rfl ?_
  refine mg_lve (lv' := [(0, _), (1, _), (3, _), (5, _), (6, _), (7, _)]) rfl ?_
  refine mg_iinc C dX1_addTo_57 rfl rfl ?_
  refine mg_lve (lv' := [(0, _), (1, _), (3, _), (5, _), (6, _), (7, _)]) rfl ?_
  refine mg_goto C 29 dX1_addTo_60 (by decide) ?_
  refine mg_iload C dX1_addTo_29 rfl ?_
  refine mg_iconst (v := 2) C dX1_addTo_31 (by decide) ?_
  refine mg_icmp_gt C 63 dX1_addTo_32 (by decide) (fun h32 => absurd h32 (by decide)) (fun h32 => ?_)
  refine mg_ldc2 C dX1_addTo_35 kX1_67 ?_
  refine mg_lload_n C dX1_addTo_38 rfl ?_
  refine mg_lmul C dX1_addTo_39 ?_
  refine mg_aload_n C dX1_addTo_40 rfl ?_
  refine mg_aload_n C dX1_addTo_41 rfl ?_
  refine mg_iload C dX1_addTo_42 rfl ?_
  refine mg_iload C dX1_addTo_44 rfl ?_
  refine mg_callV C (ct_X1_place E _ _ _ _ _ _ _ _) oX1_55 18 rfl rfl rfl rfl rfl dX1_addTo_46 (fun o46 w46 z46 => ?_)
  obtain ⟨rfl, rfl⟩ := z46
  refine mg_v ?_
  refine mg_iload C dX1_addTo_49 rfl ?_
  refine mg_callV C (ct_X1_tellCell E _ _ _ _ _ _ _ _ vin0) oX1_69 18 rfl rfl rfl rfl rfl dX1_addTo_51 (fun o51 w51 z51 => ?_)
  obtain ⟨rfl, rfl⟩ := z51
  refine mg_v ?_
  refine mg_i2l C dX1_addTo_54 ?_
  refine mg_ladd C dX1_addTo_55 ?_
  refine mg_lstore_n C dX1_addTo_56 rfl ?_
  refine mg_lve (lv' := [(0, _), (1, _), (3, _), (5, _), (6, _), (7, _)]) rfl ?_
  refine mg_iinc C dX1_addTo_57 rfl rfl ?_
  refine mg_lve (lv' := [(0, _), (1, _), (3, _), (5, _), (6, _), (7, _)]) rfl ?_
  refine mg_goto C 29 dX1_addTo_60 (by decide) ?_
  refine mg_iload C dX1_addTo_29 rfl ?_
  refine mg_iconst (v := 2) C dX1_addTo_31 (by decide) ?_
  refine mg_icmp_gt C 63 dX1_addTo_32 (by decide) (fun h32 => ?_) (fun h32 => absurd h32 (by decide))
  refine mg_iinc C dX1_addTo_63 rfl rfl ?_
  refine mg_lve (lv' := [(0, _), (1, _), (3, _), (5, _), (6, _), (7, _)]) rfl ?_
  refine mg_goto C 17 dX1_addTo_66 (by decide) ?_
  refine mg_iload C dX1_addTo_17 rfl ?_
  refine mg_aload_n C dX1_addTo_19 rfl ?_
  refine mg_get C inG_X1 fX1_32 (ci := 1) rfl rfl 18 rfl rfl dX1_addTo_20 ?_
  refine mg_icmp_ge C 69 dX1_addTo_23 (by decide) (fun h23 => ?_) (fun h23 => absurd h23 (by decide))
  refine mg_iinc C dX1_addTo_69 rfl rfl ?_
  refine mg_lve (lv' := [(0, _), (1, _), (3, _), (5, _), (6, _), (7, _)]) rfl ?_
  refine mg_goto C 5 dX1_addTo_72 (by decide) ?_
  refine mg_iload C dX1_addTo_5 rfl ?_
  refine mg_aload_n C dX1_addTo_7 rfl ?_
  refine mg_get C inG_X1 fX1_28 (ci := 1) rfl rfl 18 rfl rfl dX1_addTo_8 ?_
  refine mg_icmp_ge C 75 dX1_addTo_11 (by decide) (fun h11 => ?_) (fun h11 => absurd h11 (by decide))
  refine mg_iconst (v := 0) C dX1_addTo_75 (by decide) ?_
  refine mg_istore C dX1_addTo_76 rfl ?_
  refine mg_lve (lv' := [(0, _), (1, _), (3, _), (5, _), (6, _), (7, _)]) rfl ?_
  refine mg_iload C dX1_addTo_78 rfl ?_
  refine mg_aload_n C dX1_addTo_80 rfl ?_
  refine mg_get C inG_X1 fX1_28 (ci := 1) rfl rfl 18 rfl rfl dX1_addTo_81 ?_
  refine mg_icmp_ge C 108 dX1_addTo_84 (by decide) (fun h84 => absurd h84 (by decide)) (fun h84 => ?_)
  refine mg_ldc2 C dX1_addTo_87 kX1_67 ?_
  refine mg_lload_n C dX1_addTo_90 rfl ?_
  refine mg_lmul C dX1_addTo_91 ?_
  refine mg_aload_n C dX1_addTo_92 rfl ?_
  refine mg_get C inG_X1 fX1_21 (ci := 1) rfl rfl 18 rfl rfl dX1_addTo_93 ?_
  refine mg_iload C dX1_addTo_96 rfl ?_
  refine mg_iald C 14 rfl (vin00) dX1_addTo_98 ?_
  refine mg_i2l C dX1_addTo_99 ?_
  refine mg_ladd C dX1_addTo_100 ?_
  refine mg_lstore_n C dX1_addTo_101 rfl ?_
  refine mg_lve (lv' := [(0, _), (1, _), (3, _), (5, _), (6, _), (7, _)]) rfl ?_
  refine mg_iinc C dX1_addTo_102 rfl rfl ?_
  refine mg_lve (lv' := [(0, _), (1, _), (3, _), (5, _), (6, _), (7, _)]) rfl ?_
  refine mg_goto C 78 dX1_addTo_105 (by decide) ?_
  refine mg_iload C dX1_addTo_78 rfl ?_
  refine mg_aload_n C dX1_addTo_80 rfl ?_
  refine mg_get C inG_X1 fX1_28 (ci := 1) rfl rfl 18 rfl rfl dX1_addTo_81 ?_
  refine mg_icmp_ge C 108 dX1_addTo_84 (by decide) (fun h84 => ?_) (fun h84 => absurd h84 (by decide))
  refine mg_lload_n C dX1_addTo_108 rfl ?_
  exact mg_lret C hQ dX1_addTo_109 (⟨rfl, rfl⟩)
set_option maxHeartbeats 400000 in
set_option maxRecDepth 100000 in
theorem cf_sAdd (E : En) (ad : Nat → Nat) (tl : va_W) (h : Int64)  : Ct E mX3_addTo 1 0 0 [.ref (ad 13), .long h] (cw E ad 16 gF aF vF tl) (fun o w => o = some (.long h) ∧ w = cw E ad 16 gF aF vF tl) := by
  refine Ct.of (by decide) (Nat.le_of_ble_eq_true rfl) (fun X C hQ hin => ?_)
  have C : Cx E X cX3_addTo 7 RX3 (some .long) 1 40 0 0 := C
  refine mg_lload_n C dX3_addTo_0 rfl ?_
  refine mg_lstore_n C dX3_addTo_1 rfl ?_
  refine mg_lve (lv' := [(0, _), (1, _), (3, _)]) rfl ?_
  refine mg_iconst (v := 0) C dX3_addTo_2 (by decide) ?_
  refine mg_istore C dX3_addTo_3 rfl ?_
  refine mg_lve (lv' := [(0, _), (1, _), (3, _), (5, _)]) rfl ?_
  refine mg_iload C dX3_addTo_5 rfl ?_
  refine mg_aload_n C dX3_addTo_7 rfl ?_
  refine mg_get C inG_X3 fX3_31 (ci := 3) rfl rfl 13 rfl rfl dX3_addTo_8 ?_
  refine mg_icmp_ge C 69 dX3_addTo_11 (by decide) (fun h11 => ?_) (fun h11 => absurd h11 (by decide))
  refine mg_lload_n C dX3_addTo_69 rfl ?_
  exact mg_lret C hQ dX3_addTo_70 (⟨rfl, rfl⟩)
set_option maxHeartbeats 400000 in
set_option maxRecDepth 100000 in
theorem cf_eAdd (E : En) (ad : Nat → Nat) (tl : va_W) (h : Int64)  : Ct E mX2_addTo 1 0 0 [.ref (ad 4), .long h] (cw E ad 16 gF aF vF tl) (fun o w => o = some (.long h) ∧ w = cw E ad 16 gF aF vF tl) := by
  refine Ct.of (by decide) (Nat.le_of_ble_eq_true rfl) (fun X C hQ hin => ?_)
  have C : Cx E X cX2_addTo 7 RX2 (some .long) 1 40 0 0 := C
  refine mg_lload_n C dX2_addTo_0 rfl ?_
  refine mg_lstore_n C dX2_addTo_1 rfl ?_
  refine mg_lve (lv' := [(0, _), (1, _), (3, _)]) rfl ?_
  refine mg_iconst (v := 0) C dX2_addTo_2 (by decide) ?_
  refine mg_istore C dX2_addTo_3 rfl ?_
  refine mg_lve (lv' := [(0, _), (1, _), (3, _), (5, _)]) rfl ?_
  refine mg_iload C dX2_addTo_5 rfl ?_
  refine mg_aload_n C dX2_addTo_7 rfl ?_
  refine mg_get C inG_X2 fX2_51 (ci := 2) rfl rfl 4 rfl rfl dX2_addTo_8 ?_
  refine mg_icmp_ge C 55 dX2_addTo_11 (by decide) (fun h11 => ?_) (fun h11 => absurd h11 (by decide))
  refine mg_lload_n C dX2_addTo_55 rfl ?_
  exact mg_lret C hQ dX2_addTo_56 (⟨rfl, rfl⟩)
set_option maxHeartbeats 400000 in
set_option maxRecDepth 100000 in
theorem ct_X4_digest (E : En) (ad : Nat → Nat) (tl : va_W)   : Ct E mX4_digest 3 0 0 [.ref (ad 19)] (cw E ad 16 gF aF vF tl) (fun o w => o = some (.long (anDigest)) ∧ ∃ L : va_W, w = L ++ tl) := by
  refine Ct.of (by decide) (Nat.le_of_ble_eq_true rfl) (fun X C hQ hin => ?_)
  have C : Cx E X cX4_digest 4 RX4 (some .long) 3 120 0 0 := C
  refine mg_ldc2 C dX4_digest_0 kX4_188 ?_
  refine mg_lstore_n C dX4_digest_3 rfl ?_
  refine mg_lve (lv' := [(0, _), (1, _)]) rfl ?_
  refine mg_iconst (v := 0) C dX4_digest_4 (by decide) ?_
  refine mg_istore_n C dX4_digest_5 rfl ?_
  refine mg_lve (lv' := [(0, _), (1, _), (3, _)]) rfl ?_
  refine mg_iload_n C dX4_digest_6 rfl ?_
  refine mg_bipush (v := 9) C dX4_digest_7 (by decide) ?_
  refine mg_icmp_ge C 31 dX4_digest_9 (by decide) (fun h9 => absurd h9 (by decide)) (fun h9 => ?_)
  refine mg_ldc2 C dX4_digest_12 kX4_190 ?_
  refine mg_lload_n C dX4_digest_15 rfl ?_
  refine mg_lmul C dX4_digest_16 ?_
  refine mg_aload_n C dX4_digest_17 rfl ?_
  refine mg_iload_n C dX4_digest_18 rfl ?_
  refine mg_callV C (ct_X4_count E _ _ _) oX4_192 19 rfl rfl rfl rfl rfl dX4_digest_19 (fun o19 w19 z19 => ?_)
  obtain ⟨rfl, rfl⟩ := z19
  refine mg_v ?_
  refine mg_i2l C dX4_digest_22 ?_
  refine mg_ladd C dX4_digest_23 ?_
  refine mg_lstore_n C dX4_digest_24 rfl ?_
  refine mg_lve (lv' := [(0, _), (1, _), (3, _)]) rfl ?_
  refine mg_iinc C dX4_digest_25 rfl rfl ?_
  refine mg_lve (lv' := [(0, _), (1, _), (3, _)]) rfl ?_
  refine mg_goto C 6 dX4_digest_28 (by decide) ?_
  refine mg_iload_n C dX4_digest_6 rfl ?_
  refine mg_bipush (v := 9) C dX4_digest_7 (by decide) ?_
  refine mg_icmp_ge C 31 dX4_digest_9 (by decide) (fun h9 => absurd h9 (by decide)) (fun h9 => ?_)
  refine mg_ldc2 C dX4_digest_12 kX4_190 ?_
  refine mg_lload_n C dX4_digest_15 rfl ?_
  refine mg_lmul C dX4_digest_16 ?_
  refine mg_aload_n C dX4_digest_17 rfl ?_
  refine mg_iload_n C dX4_digest_18 rfl ?_
  refine mg_callV C (ct_X4_count E _ _ _) oX4_192 19 rfl rfl rfl rfl rfl dX4_digest_19 (fun o19 w19 z19 => ?_)
  obtain ⟨rfl, rfl⟩ := z19
  refine mg_v ?_
  refine mg_i2l C dX4_digest_22 ?_
  refine mg_ladd C dX4_digest_23 ?_
  refine mg_lstore_n C dX4_digest_24 rfl ?_
  refine mg_lve (lv' := [(0, _), (1, _), (3, _)]) rfl ?_
  refine mg_iinc C dX4_digest_25 rfl rfl ?_
  refine mg_lve (lv' := [(0, _), (1, _), (3, _)]) rfl ?_
  refine mg_goto C 6 dX4_digest_28 (by decide) ?_
  refine mg_iload_n C dX4_digest_6 rfl ?_
  refine mg_bipush (v := 9) C dX4_digest_7 (by decide) ?_
  refine mg_icmp_ge C 31 dX4_digest_9 (by decide) (fun h9 => absurd h9 (by decide)) (fun h9 => ?_)
  refine mg_ldc2 C dX4_digest_12 kX4_190 ?_
  refine mg_lload_n C dX4_digest_15 rfl ?_
  refine mg_lmul C dX4_digest_16 ?_
  refine mg_aload_n C dX4_digest_17 rfl ?_
  refine mg_iload_n C dX4_digest_18 rfl ?_
  refine mg_callV C (ct_X4_count E _ _ _) oX4_192 19 rfl rfl rfl rfl rfl dX4_digest_19 (fun o19 w19 z19 => ?_)
  obtain ⟨rfl, rfl⟩ := z19
  refine mg_v ?_
  refine mg_i2l C dX4_digest_22 ?_
  refine mg_ladd C dX4_digest_23 ?_
  refine mg_lstore_n C dX4_digest_24 rfl ?_
  refine mg_lve (lv' := [(0, _), (1, _), (3, _)]) rfl ?_
  refine mg_iinc C dX4_digest_25 rfl rfl ?_
  refine mg_lve (lv' := [(0, _), (1, _), (3, _)]) rfl ?_
  refine mg_goto C 6 dX4_digest_28 (by decide) ?_
  refine mg_iload_n C dX4_digest_6 rfl ?_
  refine mg_bipush (v := 9) C dX4_digest_7 (by decide) ?_
  refine mg_icmp_ge C 31 dX4_digest_9 (by decide) (fun h9 => absurd h9 (by decide)) (fun h9 => ?_)
  refine mg_ldc2 C dX4_digest_12 kX4_190 ?_
  refine mg_lload_n C dX4_digest_15 rfl ?_
  refine mg_lmul C dX4_digest_16 ?_
  refine mg_aload_n C dX4_digest_17 rfl ?_
  refine mg_iload_n C dX4_digest_18 rfl ?_
  refine mg_callV C (ct_X4_count E _ _ _) oX4_192 19 rfl rfl rfl rfl rfl dX4_digest_19 (fun o19 w19 z19 => ?_)
  obtain ⟨rfl, rfl⟩ := z19
  refine mg_v ?_
  refine mg_i2l C dX4_digest_22 ?_
  refine mg_ladd C dX4_digest_23 ?_
  refine mg_lstore_n C dX4_digest_24 rfl ?_
  refine mg_lve (lv' := [(0, _), (1, _), (3, _)]) rfl ?_
  refine mg_iinc C dX4_digest_25 rfl rfl ?_
  refine mg_lve (lv' := [(0, _), (1, _), (3, _)]) rfl ?_
  refine mg_goto C 6 dX4_digest_28 (by decide) ?_
  refine mg_iload_n C dX4_digest_6 rfl ?_
  refine mg_bipush (v := 9) C dX4_digest_7 (by decide) ?_
  refine mg_icmp_ge C 31 dX4_digest_9 (by decide) (fun h9 => absurd h9 (by decide)) (fun h9 => ?_)
  refine mg_ldc2 C dX4_digest_12 kX4_190 ?_
  refine mg_lload_n C dX4_digest_15 rfl ?_
  refine mg_lmul C dX4_digest_16 ?_
  refine mg_aload_n C dX4_digest_17 rfl ?_
  refine mg_iload_n C dX4_digest_18 rfl ?_
  refine mg_callV C (ct_X4_count E _ _ _) oX4_192 19 rfl rfl rfl rfl rfl dX4_digest_19 (fun o19 w19 z19 => ?_)
  obtain ⟨rfl, rfl⟩ := z19
  refine mg_v ?_
  refine mg_i2l C dX4_digest_22 ?_
  refine mg_ladd C dX4_digest_23 ?_
  refine mg_lstore_n C dX4_digest_24 rfl ?_
  refine mg_lve (lv' := [(0, _), (1, _), (3, _)]) rfl ?_
  refine mg_iinc C dX4_digest_25 rfl rfl ?_
  refine mg_lve (lv' := [(0, _), (1, _), (3, _)]) rfl ?_
  refine mg_goto C 6 dX4_digest_28 (by decide) ?_
  refine mg_iload_n C dX4_digest_6 rfl ?_
  refine mg_bipush (v := 9) C dX4_digest_7 (by decide) ?_
  refine mg_icmp_ge C 31 dX4_digest_9 (by decide) (fun h9 => absurd h9 (by decide)) (fun h9 => ?_)
  refine mg_ldc2 C dX4_digest_12 kX4_190 ?_
  refine mg_lload_n C dX4_digest_15 rfl ?_
  refine mg_lmul C dX4_digest_16 ?_
  refine mg_aload_n C dX4_digest_17 rfl ?_
  refine mg_iload_n C dX4_digest_18 rfl ?_
  refine mg_callV C (ct_X4_count E _ _ _) oX4_192 19 rfl rfl rfl rfl rfl dX4_digest_19 (fun o19 w19 z19 => ?_)
  obtain ⟨rfl, rfl⟩ := z19
  refine mg_v ?_
  refine mg_i2l C dX4_digest_22 ?_
  refine mg_ladd C dX4_digest_23 ?_
  refine mg_lstore_n C dX4_digest_24 rfl ?_
  refine mg_lve (lv' := [(0, _), (1, _), (3, _)]) rfl ?_
  refine mg_iinc C dX4_digest_25 rfl rfl ?_
  refine mg_lve (lv' := [(0, _), (1, _), (3, _)]) rfl ?_
  refine mg_goto C 6 dX4_digest_28 (by decide) ?_
  refine mg_iload_n C dX4_digest_6 rfl ?_
  refine mg_bipush (v := 9) C dX4_digest_7 (by decide) ?_
  refine mg_icmp_ge C 31 dX4_digest_9 (by decide) (fun h9 => absurd h9 (by decide)) (fun h9 => ?_)
  refine mg_ldc2 C dX4_digest_12 kX4_190 ?_
  refine mg_lload_n C dX4_digest_15 rfl ?_
  refine mg_lmul C dX4_digest_16 ?_
  refine mg_aload_n C dX4_digest_17 rfl ?_
  refine mg_iload_n C dX4_digest_18 rfl ?_
  refine mg_callV C (ct_X4_count E _ _ _) oX4_192 19 rfl rfl rfl rfl rfl dX4_digest_19 (fun o19 w19 z19 => ?_)
  obtain ⟨rfl, rfl⟩ := z19
  refine mg_v ?_
  refine mg_i2l C dX4_digest_22 ?_
  refine mg_ladd C dX4_digest_23 ?_
  refine mg_lstore_n C dX4_digest_24 rfl ?_
  refine mg_lve (lv' := [(0, _), (1, _), (3, _)]) rfl ?_
  refine mg_iinc C dX4_digest_25 rfl rfl ?_
  refine mg_lve (lv' := [(0, _), (1, _), (3, _)]) rfl ?_
  refine mg_goto C 6 dX4_digest_28 (by decide) ?_
  refine mg_iload_n C dX4_digest_6 rfl ?_
  refine mg_bipush (v := 9) C dX4_digest_7 (by decide) ?_
  refine mg_icmp_ge C 31 dX4_digest_9 (by decide) (fun h9 => absurd h9 (by decide)) (fun h9 => ?_)
  refine mg_ldc2 C dX4_digest_12 kX4_190 ?_
  refine mg_lload_n C dX4_digest_15 rfl ?_
  refine mg_lmul C dX4_digest_16 ?_
  refine mg_aload_n C dX4_digest_17 rfl ?_
  refine mg_iload_n C dX4_digest_18 rfl ?_
  refine mg_callV C (ct_X4_count E _ _ _) oX4_192 19 rfl rfl rfl rfl rfl dX4_digest_19 (fun o19 w19 z19 => ?_)
  obtain ⟨rfl, rfl⟩ := z19
  refine mg_v ?_
  refine mg_i2l C dX4_digest_22 ?_
  refine mg_ladd C dX4_digest_23 ?_
  refine mg_lstore_n C dX4_digest_24 rfl ?_
  refine mg_lve (lv' := [(0, _), (1, _), (3, _)]) rfl ?_
  refine mg_iinc C dX4_digest_25 rfl rfl ?_
  refine mg_lve (lv' := [(0, _), (1, _), (3, _)]) rfl ?_
  refine mg_goto C 6 dX4_digest_28 (by decide) ?_
  refine mg_iload_n C dX4_digest_6 rfl ?_
  refine mg_bipush (v := 9) C dX4_digest_7 (by decide) ?_
  refine mg_icmp_ge C 31 dX4_digest_9 (by decide) (fun h9 => absurd h9 (by decide)) (fun h9 => ?_)
  refine mg_ldc2 C dX4_digest_12 kX4_190 ?_
  refine mg_lload_n C dX4_digest_15 rfl ?_
  refine mg_lmul C dX4_digest_16 ?_
  refine mg_aload_n C dX4_digest_17 rfl ?_
  refine mg_iload_n C dX4_digest_18 rfl ?_
  refine mg_callV C (ct_X4_count E _ _ _) oX4_192 19 rfl rfl rfl rfl rfl dX4_digest_19 (fun o19 w19 z19 => ?_)
  obtain ⟨rfl, rfl⟩ := z19
  refine mg_v ?_
  refine mg_i2l C dX4_digest_22 ?_
  refine mg_ladd C dX4_digest_23 ?_
  refine mg_lstore_n C dX4_digest_24 rfl ?_
  refine mg_lve (lv' := [(0, _), (1, _), (3, _)]) rfl ?_
  refine mg_iinc C dX4_digest_25 rfl rfl ?_
  refine mg_lve (lv' := [(0, _), (1, _), (3, _)]) rfl ?_
  refine mg_goto C 6 dX4_digest_28 (by decide) ?_
  refine mg_iload_n C dX4_digest_6 rfl ?_
  refine mg_bipush (v := 9) C dX4_digest_7 (by decide) ?_
  refine mg_icmp_ge C 31 dX4_digest_9 (by decide) (fun h9 => ?_) (fun h9 => absurd h9 (by decide))
  refine mg_aload_n C dX4_digest_31 rfl ?_
  refine mg_get C inG_X4 fX4_10 (ci := 4) rfl rfl 19 rfl rfl dX4_digest_32 ?_
  refine mg_lload_n C dX4_digest_35 rfl ?_
  refine mg_callVN C (cf_gAdd E _ _ _) oX4_195 18 rfl rfl rfl rfl rfl dX4_digest_36 (fun o36 w36 z36 => ?_)
  obtain ⟨rfl, rfl⟩ := z36
  refine mg_v ?_
  refine mg_lstore_n C dX4_digest_39 rfl ?_
  refine mg_lve (lv' := [(0, _), (1, _), (3, _)]) rfl ?_
  refine mg_aload_n C dX4_digest_40 rfl ?_
  refine mg_get C inG_X4 fX4_21 (ci := 4) rfl rfl 19 rfl rfl dX4_digest_41 ?_
  refine mg_lload_n C dX4_digest_44 rfl ?_
  refine mg_callVN C (cf_sAdd E _ _ _) oX4_199 13 rfl rfl rfl rfl rfl dX4_digest_45 (fun o45 w45 z45 => ?_)
  obtain ⟨rfl, rfl⟩ := z45
  refine mg_v ?_
  refine mg_lstore_n C dX4_digest_48 rfl ?_
  refine mg_lve (lv' := [(0, _), (1, _), (3, _)]) rfl ?_
  refine mg_aload_n C dX4_digest_49 rfl ?_
  refine mg_get C inG_X4 fX4_35 (ci := 4) rfl rfl 19 rfl rfl dX4_digest_50 ?_
  refine mg_lload_n C dX4_digest_53 rfl ?_
  refine mg_callVN C (cf_eAdd E _ _ _) oX4_200 4 rfl rfl rfl rfl rfl dX4_digest_54 (fun o54 w54 z54 => ?_)
  obtain ⟨rfl, rfl⟩ := z54
  refine mg_v ?_
  exact mg_lret C hQ dX4_digest_57 (⟨congrArg (fun z => some (Value.long z)) (by decide +kernel), zx⟩)
set_option maxHeartbeats 400000 in
set_option maxRecDepth 100000 in
theorem ct_X5_digest (E : En) (ad : Nat → Nat) (tl : va_W)   : Ct E mX5_digest 1 0 0 [.ref (ad 17)] (mw E ad gF aF vF tl) (fun o w => o = some (.long (anDigest)) ∧ True) := by
  refine Ct.of (by decide) (Nat.le_of_ble_eq_true rfl) (fun X C hQ hin => ?_)
  have C : Cx E X cX5_digest 6 RX5 (some .long) 1 40 0 0 := C
  refine mg_ldc2 C dX5_digest_0 kX5_183 ?_
  refine mg_lstore_n C dX5_digest_3 rfl ?_
  refine mg_lve (lv' := [(0, _), (1, _)]) rfl ?_
  refine mg_iconst (v := 0) C dX5_digest_4 (by decide) ?_
  refine mg_istore_n C dX5_digest_5 rfl ?_
  refine mg_lve (lv' := [(0, _), (1, _), (3, _)]) rfl ?_
  refine mg_iload_n C dX5_digest_6 rfl ?_
  refine mg_bipush (v := 9) C dX5_digest_7 (by decide) ?_
  refine mg_icmp_ge C 31 dX5_digest_9 (by decide) (fun h9 => absurd h9 (by decide)) (fun h9 => ?_)
  refine mg_ldc2 C dX5_digest_12 kX5_185 ?_
  refine mg_lload_n C dX5_digest_15 rfl ?_
  refine mg_lmul C dX5_digest_16 ?_
  refine mg_aload_n C dX5_digest_17 rfl ?_
  refine mg_iload_n C dX5_digest_18 rfl ?_
  refine mg_callV C (ct_X5_count E _ _ _) oX5_187 17 rfl rfl rfl rfl rfl dX5_digest_19 (fun o19 w19 z19 => ?_)
  obtain ⟨rfl, rfl⟩ := z19
  refine mg_v ?_
  refine mg_i2l C dX5_digest_22 ?_
  refine mg_ladd C dX5_digest_23 ?_
  refine mg_lstore_n C dX5_digest_24 rfl ?_
  refine mg_lve (lv' := [(0, _), (1, _), (3, _)]) rfl ?_
  refine mg_iinc C dX5_digest_25 rfl rfl ?_
  refine mg_lve (lv' := [(0, _), (1, _), (3, _)]) rfl ?_
  refine mg_goto C 6 dX5_digest_28 (by decide) ?_
  refine mg_iload_n C dX5_digest_6 rfl ?_
  refine mg_bipush (v := 9) C dX5_digest_7 (by decide) ?_
  refine mg_icmp_ge C 31 dX5_digest_9 (by decide) (fun h9 => absurd h9 (by decide)) (fun h9 => ?_)
  refine mg_ldc2 C dX5_digest_12 kX5_185 ?_
  refine mg_lload_n C dX5_digest_15 rfl ?_
  refine mg_lmul C dX5_digest_16 ?_
  refine mg_aload_n C dX5_digest_17 rfl ?_
  refine mg_iload_n C dX5_digest_18 rfl ?_
  refine mg_callV C (ct_X5_count E _ _ _) oX5_187 17 rfl rfl rfl rfl rfl dX5_digest_19 (fun o19 w19 z19 => ?_)
  obtain ⟨rfl, rfl⟩ := z19
  refine mg_v ?_
  refine mg_i2l C dX5_digest_22 ?_
  refine mg_ladd C dX5_digest_23 ?_
  refine mg_lstore_n C dX5_digest_24 rfl ?_
  refine mg_lve (lv' := [(0, _), (1, _), (3, _)]) rfl ?_
  refine mg_iinc C dX5_digest_25 rfl rfl ?_
  refine mg_lve (lv' := [(0, _), (1, _), (3, _)]) rfl ?_
  refine mg_goto C 6 dX5_digest_28 (by decide) ?_
  refine mg_iload_n C dX5_digest_6 rfl ?_
  refine mg_bipush (v := 9) C dX5_digest_7 (by decide) ?_
  refine mg_icmp_ge C 31 dX5_digest_9 (by decide) (fun h9 => absurd h9 (by decide)) (fun h9 => ?_)
  refine mg_ldc2 C dX5_digest_12 kX5_185 ?_
  refine mg_lload_n C dX5_digest_15 rfl ?_
  refine mg_lmul C dX5_digest_16 ?_
  refine mg_aload_n C dX5_digest_17 rfl ?_
  refine mg_iload_n C dX5_digest_18 rfl ?_
  refine mg_callV C (ct_X5_count E _ _ _) oX5_187 17 rfl rfl rfl rfl rfl dX5_digest_19 (fun o19 w19 z19 => ?_)
  obtain ⟨rfl, rfl⟩ := z19
  refine mg_v ?_
  refine mg_i2l C dX5_digest_22 ?_
  refine mg_ladd C dX5_digest_23 ?_
  refine mg_lstore_n C dX5_digest_24 rfl ?_
  refine mg_lve (lv' := [(0, _), (1, _), (3, _)]) rfl ?_
  refine mg_iinc C dX5_digest_25 rfl rfl ?_
  refine mg_lve (lv' := [(0, _), (1, _), (3, _)]) rfl ?_
  refine mg_goto C 6 dX5_digest_28 (by decide) ?_
  refine mg_iload_n C dX5_digest_6 rfl ?_
  refine mg_bipush (v := 9) C dX5_digest_7 (by decide) ?_
  refine mg_icmp_ge C 31 dX5_digest_9 (by decide) (fun h9 => absurd h9 (by decide)) (fun h9 => ?_)
  refine mg_ldc2 C dX5_digest_12 kX5_185 ?_
  refine mg_lload_n C dX5_digest_15 rfl ?_
  refine mg_lmul C dX5_digest_16 ?_
  refine mg_aload_n C dX5_digest_17 rfl ?_
  refine mg_iload_n C dX5_digest_18 rfl ?_
  refine mg_callV C (ct_X5_count E _ _ _) oX5_187 17 rfl rfl rfl rfl rfl dX5_digest_19 (fun o19 w19 z19 => ?_)
  obtain ⟨rfl, rfl⟩ := z19
  refine mg_v ?_
  refine mg_i2l C dX5_digest_22 ?_
  refine mg_ladd C dX5_digest_23 ?_
  refine mg_lstore_n C dX5_digest_24 rfl ?_
  refine mg_lve (lv' := [(0, _), (1, _), (3, _)]) rfl ?_
  refine mg_iinc C dX5_digest_25 rfl rfl ?_
  refine mg_lve (lv' := [(0, _), (1, _), (3, _)]) rfl ?_
  refine mg_goto C 6 dX5_digest_28 (by decide) ?_
  refine mg_iload_n C dX5_digest_6 rfl ?_
  refine mg_bipush (v := 9) C dX5_digest_7 (by decide) ?_
  refine mg_icmp_ge C 31 dX5_digest_9 (by decide) (fun h9 => absurd h9 (by decide)) (fun h9 => ?_)
  refine mg_ldc2 C dX5_digest_12 kX5_185 ?_
  refine mg_lload_n C dX5_digest_15 rfl ?_
  refine mg_lmul C dX5_digest_16 ?_
  refine mg_aload_n C dX5_digest_17 rfl ?_
  refine mg_iload_n C dX5_digest_18 rfl ?_
  refine mg_callV C (ct_X5_count E _ _ _) oX5_187 17 rfl rfl rfl rfl rfl dX5_digest_19 (fun o19 w19 z19 => ?_)
  obtain ⟨rfl, rfl⟩ := z19
  refine mg_v ?_
  refine mg_i2l C dX5_digest_22 ?_
  refine mg_ladd C dX5_digest_23 ?_
  refine mg_lstore_n C dX5_digest_24 rfl ?_
  refine mg_lve (lv' := [(0, _), (1, _), (3, _)]) rfl ?_
  refine mg_iinc C dX5_digest_25 rfl rfl ?_
  refine mg_lve (lv' := [(0, _), (1, _), (3, _)]) rfl ?_
  refine mg_goto C 6 dX5_digest_28 (by decide) ?_
  refine mg_iload_n C dX5_digest_6 rfl ?_
  refine mg_bipush (v := 9) C dX5_digest_7 (by decide) ?_
  refine mg_icmp_ge C 31 dX5_digest_9 (by decide) (fun h9 => absurd h9 (by decide)) (fun h9 => ?_)
  refine mg_ldc2 C dX5_digest_12 kX5_185 ?_
  refine mg_lload_n C dX5_digest_15 rfl ?_
  refine mg_lmul C dX5_digest_16 ?_
  refine mg_aload_n C dX5_digest_17 rfl ?_
  refine mg_iload_n C dX5_digest_18 rfl ?_
  refine mg_callV C (ct_X5_count E _ _ _) oX5_187 17 rfl rfl rfl rfl rfl dX5_digest_19 (fun o19 w19 z19 => ?_)
  obtain ⟨rfl, rfl⟩ := z19
  refine mg_v ?_
  refine mg_i2l C dX5_digest_22 ?_
  refine mg_ladd C dX5_digest_23 ?_
  refine mg_lstore_n C dX5_digest_24 rfl ?_
  refine mg_lve (lv' := [(0, _), (1, _), (3, _)]) rfl ?_
  refine mg_iinc C dX5_digest_25 rfl rfl ?_
  refine mg_lve (lv' := [(0, _), (1, _), (3, _)]) rfl ?_
  refine mg_goto C 6 dX5_digest_28 (by decide) ?_
  refine mg_iload_n C dX5_digest_6 rfl ?_
  refine mg_bipush (v := 9) C dX5_digest_7 (by decide) ?_
  refine mg_icmp_ge C 31 dX5_digest_9 (by decide) (fun h9 => absurd h9 (by decide)) (fun h9 => ?_)
  refine mg_ldc2 C dX5_digest_12 kX5_185 ?_
  refine mg_lload_n C dX5_digest_15 rfl ?_
  refine mg_lmul C dX5_digest_16 ?_
  refine mg_aload_n C dX5_digest_17 rfl ?_
  refine mg_iload_n C dX5_digest_18 rfl ?_
  refine mg_callV C (ct_X5_count E _ _ _) oX5_187 17 rfl rfl rfl rfl rfl dX5_digest_19 (fun o19 w19 z19 => ?_)
  obtain ⟨rfl, rfl⟩ := z19
  refine mg_v ?_
  refine mg_i2l C dX5_digest_22 ?_
  refine mg_ladd C dX5_digest_23 ?_
  refine mg_lstore_n C dX5_digest_24 rfl ?_
  refine mg_lve (lv' := [(0, _), (1, _), (3, _)]) rfl ?_
  refine mg_iinc C dX5_digest_25 rfl rfl ?_
  refine mg_lve (lv' := [(0, _), (1, _), (3, _)]) rfl ?_
  refine mg_goto C 6 dX5_digest_28 (by decide) ?_
  refine mg_iload_n C dX5_digest_6 rfl ?_
  refine mg_bipush (v := 9) C dX5_digest_7 (by decide) ?_
  refine mg_icmp_ge C 31 dX5_digest_9 (by decide) (fun h9 => absurd h9 (by decide)) (fun h9 => ?_)
  refine mg_ldc2 C dX5_digest_12 kX5_185 ?_
  refine mg_lload_n C dX5_digest_15 rfl ?_
  refine mg_lmul C dX5_digest_16 ?_
  refine mg_aload_n C dX5_digest_17 rfl ?_
  refine mg_iload_n C dX5_digest_18 rfl ?_
  refine mg_callV C (ct_X5_count E _ _ _) oX5_187 17 rfl rfl rfl rfl rfl dX5_digest_19 (fun o19 w19 z19 => ?_)
  obtain ⟨rfl, rfl⟩ := z19
  refine mg_v ?_
  refine mg_i2l C dX5_digest_22 ?_
  refine mg_ladd C dX5_digest_23 ?_
  refine mg_lstore_n C dX5_digest_24 rfl ?_
  refine mg_lve (lv' := [(0, _), (1, _), (3, _)]) rfl ?_
  refine mg_iinc C dX5_digest_25 rfl rfl ?_
  refine mg_lve (lv' := [(0, _), (1, _), (3, _)]) rfl ?_
  refine mg_goto C 6 dX5_digest_28 (by decide) ?_
  refine mg_iload_n C dX5_digest_6 rfl ?_
  refine mg_bipush (v := 9) C dX5_digest_7 (by decide) ?_
  refine mg_icmp_ge C 31 dX5_digest_9 (by decide) (fun h9 => absurd h9 (by decide)) (fun h9 => ?_)
  refine mg_ldc2 C dX5_digest_12 kX5_185 ?_
  refine mg_lload_n C dX5_digest_15 rfl ?_
  refine mg_lmul C dX5_digest_16 ?_
  refine mg_aload_n C dX5_digest_17 rfl ?_
  refine mg_iload_n C dX5_digest_18 rfl ?_
  refine mg_callV C (ct_X5_count E _ _ _) oX5_187 17 rfl rfl rfl rfl rfl dX5_digest_19 (fun o19 w19 z19 => ?_)
  obtain ⟨rfl, rfl⟩ := z19
  refine mg_v ?_
  refine mg_i2l C dX5_digest_22 ?_
  refine mg_ladd C dX5_digest_23 ?_
  refine mg_lstore_n C dX5_digest_24 rfl ?_
  refine mg_lve (lv' := [(0, _), (1, _), (3, _)]) rfl ?_
  refine mg_iinc C dX5_digest_25 rfl rfl ?_
  refine mg_lve (lv' := [(0, _), (1, _), (3, _)]) rfl ?_
  refine mg_goto C 6 dX5_digest_28 (by decide) ?_
  refine mg_iload_n C dX5_digest_6 rfl ?_
  refine mg_bipush (v := 9) C dX5_digest_7 (by decide) ?_
  refine mg_icmp_ge C 31 dX5_digest_9 (by decide) (fun h9 => ?_) (fun h9 => absurd h9 (by decide))
  refine mg_iconst (v := 0) C dX5_digest_31 (by decide) ?_
  refine mg_istore_n C dX5_digest_32 rfl ?_
  refine mg_lve (lv' := [(0, _), (1, _), (3, _)]) rfl ?_
  refine mg_iload_n C dX5_digest_33 rfl ?_
  refine mg_aload_n C dX5_digest_34 rfl ?_
  refine mg_get C inG_X5 fX5_7 (ci := 5) rfl rfl 17 rfl rfl dX5_digest_35 ?_
  refine mg_icmp_ge C 101 dX5_digest_38 (by decide) (fun h38 => absurd h38 (by decide)) (fun h38 => ?_)
  refine mg_iconst (v := 0) C dX5_digest_41 (by decide) ?_
  refine mg_istore C dX5_digest_42 rfl ?_
  refine mg_lve (lv' := [(0, _), (1, _), (3, _), (4, _)]) rfl ?_
  refine mg_iload C dX5_digest_44 rfl ?_
  refine mg_aload_n C dX5_digest_46 rfl ?_
  refine mg_get C inG_X5 fX5_13 (ci := 5) rfl rfl 17 rfl rfl dX5_digest_47 ?_
  refine mg_icmp_ge C 95 dX5_digest_50 (by decide) (fun h50 => absurd h50 (by decide)) (fun h50 => ?_)
  refine mg_iconst (v := 0) C dX5_digest_53 (by decide) ?_
  refine mg_istore C dX5_digest_54 rfl ?_
  refine mg_lve (lv' := [(0, _), (1, _), (3, _), (4, _), (5, _)]) rfl ?_
  refine mg_iload C dX5_digest_56 rfl ?_
  refine mg_iconst (v := 3) C dX5_digest_58 (by decide) ?_
  refine mg_icmp_ge C 89 dX5_digest_59 (by decide) (fun h59 => absurd h59 (by decide)) (fun h59 => ?_)
  refine mg_ldc2 C dX5_digest_62 kX5_185 ?_
  refine mg_lload_n C dX5_digest_65 rfl ?_
  refine mg_lmul C dX5_digest_66 ?_
  refine mg_aload_n C dX5_digest_67 rfl ?_
  refine mg_bipush (v := 24) C dX5_digest_68 (by decide) ?_
  refine mg_iload_n C dX5_digest_70 rfl ?_
  refine mg_imul C dX5_digest_71 ?_
  refine mg_iload C dX5_digest_72 rfl ?_
  refine mg_iadd C dX5_digest_74 ?_
  refine mg_iload C dX5_digest_75 rfl ?_
  refine mg_callV C (ct_X5_cellAt E _ _ _ _ _ _ _ vin0') oX5_109 17 rfl rfl rfl rfl rfl dX5_digest_77 (fun o77 w77 z77 => ?_)
  obtain ⟨rfl, rfl⟩ := z77
  refine mg_v ?_
  refine mg_i2l C dX5_digest_80 ?_
  refine mg_ladd C dX5_digest_81 ?_
  refine mg_lstore_n C dX5_digest_82 rfl ?_
  refine mg_lve (lv' := [(0, _), (1, _), (3, _), (4, _), (5, _)]) rfl ?_
  refine mg_iinc C dX5_digest_83 rfl rfl ?_
  refine mg_lve (lv' := [(0, _), (1, _), (3, _), (4, _), (5, _)]) rfl ?_
  refine mg_goto C 56 dX5_digest_86 (by decide) ?_
  refine mg_iload C dX5_digest_56 rfl ?_
  refine mg_iconst (v := 3) C dX5_digest_58 (by decide) ?_
  refine mg_icmp_ge C 89 dX5_digest_59 (by decide) (fun h59 => absurd h59 (by decide)) (fun h59 => ?_)
  refine mg_ldc2 C dX5_digest_62 kX5_185 ?_
  refine mg_lload_n C dX5_digest_65 rfl ?_
  refine mg_lmul C dX5_digest_66 ?_
  refine mg_aload_n C dX5_digest_67 rfl ?_
  refine mg_bipush (v := 24) C dX5_digest_68 (by decide) ?_
  refine mg_iload_n C dX5_digest_70 rfl ?_
  refine mg_imul C dX5_digest_71 ?_
  refine mg_iload C dX5_digest_72 rfl ?_
  refine mg_iadd C dX5_digest_74 ?_
  refine mg_iload C dX5_digest_75 rfl ?_
  refine mg_callV C (ct_X5_cellAt E _ _ _ _ _ _ _ vin0') oX5_109 17 rfl rfl rfl rfl rfl dX5_digest_77 (fun o77 w77 z77 => ?_)
  obtain ⟨rfl, rfl⟩ := z77
  refine mg_v ?_
  refine mg_i2l C dX5_digest_80 ?_
  refine mg_ladd C dX5_digest_81 ?_
  refine mg_lstore_n C dX5_digest_82 rfl ?_
  refine mg_lve (lv' := [(0, _), (1, _), (3, _), (4, _), (5, _)]) rfl ?_
  refine mg_iinc C dX5_digest_83 rfl rfl ?_
  refine mg_lve (lv' := [(0, _), (1, _), (3, _), (4, _), (5, _)]) rfl ?_
  refine mg_goto C 56 dX5_digest_86 (by decide) ?_
  refine mg_iload C dX5_digest_56 rfl ?_
  refine mg_iconst (v := 3) C dX5_digest_58 (by decide) ?_
  refine mg_icmp_ge C 89 dX5_digest_59 (by decide) (fun h59 => absurd h59 (by decide)) (fun h59 => ?_)
  refine mg_ldc2 C dX5_digest_62 kX5_185 ?_
  refine mg_lload_n C dX5_digest_65 rfl ?_
  refine mg_lmul C dX5_digest_66 ?_
  refine mg_aload_n C dX5_digest_67 rfl ?_
  refine mg_bipush (v := 24) C dX5_digest_68 (by decide) ?_
  refine mg_iload_n C dX5_digest_70 rfl ?_
  refine mg_imul C dX5_digest_71 ?_
  refine mg_iload C dX5_digest_72 rfl ?_
  refine mg_iadd C dX5_digest_74 ?_
  refine mg_iload C dX5_digest_75 rfl ?_
  refine mg_callV C (ct_X5_cellAt E _ _ _ _ _ _ _ vin0') oX5_109 17 rfl rfl rfl rfl rfl dX5_digest_77 (fun o77 w77 z77 => ?_)
  obtain ⟨rfl, rfl⟩ := z77
  refine mg_v ?_
  refine mg_i2l C dX5_digest_80 ?_
  refine mg_ladd C dX5_digest_81 ?_
  refine mg_lstore_n C dX5_digest_82 rfl ?_
  refine mg_lve (lv' := [(0, _), (1, _), (3, _), (4, _), (5, _)]) rfl ?_
  refine mg_iinc C dX5_digest_83 rfl rfl ?_
  refine mg_lve (lv' := [(0, _), (1, _), (3, _), (4, _), (5, _)]) rfl ?_
  refine mg_goto C 56 dX5_digest_86 (by decide) ?_
  refine mg_iload C dX5_digest_56 rfl ?_
  refine mg_iconst (v := 3) C dX5_digest_58 (by decide) ?_
  refine mg_icmp_ge C 89 dX5_digest_59 (by decide) (fun h59 => ?_) (fun h59 => absurd h59 (by decide))
  refine mg_iinc C dX5_digest_89 rfl rfl ?_
  refine mg_lve (lv' := [(0, _), (1, _), (3, _), (4, _), (5, _)]) rfl ?_
  refine mg_goto C 44 dX5_digest_92 (by decide) ?_
  refine mg_iload C dX5_digest_44 rfl ?_
  refine mg_aload_n C dX5_digest_46 rfl ?_
  refine mg_get C inG_X5 fX5_13 (ci := 5) rfl rfl 17 rfl rfl dX5_digest_47 ?_
  refine mg_icmp_ge C 95 dX5_digest_50 (by decide) (fun h50 => ?_) (fun h50 => absurd h50 (by decide))
  refine mg_iinc C dX5_digest_95 rfl rfl ?_
  refine mg_lve (lv' := [(0, _), (1, _), (3, _), (4, _), (5, _)]) rfl ?_
  refine mg_goto C 33 dX5_digest_98 (by decide) ?_
  refine mg_iload_n C dX5_digest_33 rfl ?_
  refine mg_aload_n C dX5_digest_34 rfl ?_
  refine mg_get C inG_X5 fX5_7 (ci := 5) rfl rfl 17 rfl rfl dX5_digest_35 ?_
  refine mg_icmp_ge C 101 dX5_digest_38 (by decide) (fun h38 => ?_) (fun h38 => absurd h38 (by decide))
  refine mg_iconst (v := 0) C dX5_digest_101 (by decide) ?_
  refine mg_istore_n C dX5_digest_102 rfl ?_
  refine mg_lve (lv' := [(0, _), (1, _), (3, _), (4, _), (5, _)]) rfl ?_
  refine mg_iload_n C dX5_digest_103 rfl ?_
  refine mg_aload_n C dX5_digest_104 rfl ?_
  refine mg_get C inG_X5 fX5_7 (ci := 5) rfl rfl 17 rfl rfl dX5_digest_105 ?_
  refine mg_icmp_ge C 131 dX5_digest_108 (by decide) (fun h108 => absurd h108 (by decide)) (fun h108 => ?_)
  refine mg_ldc2 C dX5_digest_111 kX5_185 ?_
  refine mg_lload_n C dX5_digest_114 rfl ?_
  refine mg_lmul C dX5_digest_115 ?_
  refine mg_aload_n C dX5_digest_116 rfl ?_
  refine mg_get C inG_X5 fX5_29 (ci := 5) rfl rfl 17 rfl rfl dX5_digest_117 ?_
  refine mg_iload_n C dX5_digest_120 rfl ?_
  refine mg_iald C 13 rfl (vin00) dX5_digest_121 ?_
  refine mg_i2l C dX5_digest_122 ?_
  refine mg_ladd C dX5_digest_123 ?_
  refine mg_lstore_n C dX5_digest_124 rfl ?_
  refine mg_lve (lv' := [(0, _), (1, _), (3, _), (4, _), (5, _)]) rfl ?_
  refine mg_iinc C dX5_digest_125 rfl rfl ?_
  refine mg_lve (lv' := [(0, _), (1, _), (3, _), (4, _), (5, _)]) rfl ?_
  refine mg_goto C 103 dX5_digest_128 (by decide) ?_
  refine mg_iload_n C dX5_digest_103 rfl ?_
  refine mg_aload_n C dX5_digest_104 rfl ?_
  refine mg_get C inG_X5 fX5_7 (ci := 5) rfl rfl 17 rfl rfl dX5_digest_105 ?_
  refine mg_icmp_ge C 131 dX5_digest_108 (by decide) (fun h108 => ?_) (fun h108 => absurd h108 (by decide))
  refine mg_iconst (v := 0) C dX5_digest_131 (by decide) ?_
  refine mg_istore_n C dX5_digest_132 rfl ?_
  refine mg_lve (lv' := [(0, _), (1, _), (3, _), (4, _), (5, _)]) rfl ?_
  refine mg_iload_n C dX5_digest_133 rfl ?_
  refine mg_aload_n C dX5_digest_134 rfl ?_
  refine mg_get C inG_X5 fX5_82 (ci := 5) rfl rfl 17 rfl rfl dX5_digest_135 ?_
  refine mg_icmp_ge C 199 dX5_digest_138 (by decide) (fun h138 => ?_) (fun h138 => absurd h138 (by decide))
  refine mg_iconst (v := 0) C dX5_digest_199 (by decide) ?_
  refine mg_istore_n C dX5_digest_200 rfl ?_
  refine mg_lve (lv' := [(0, _), (1, _), (3, _), (4, _), (5, _)]) rfl ?_
  refine mg_iload_n C dX5_digest_201 rfl ?_
  refine mg_aload_n C dX5_digest_202 rfl ?_
  refine mg_get C inG_X5 fX5_160 (ci := 5) rfl rfl 17 rfl rfl dX5_digest_203 ?_
  refine mg_icmp_ge C 265 dX5_digest_206 (by decide) (fun h206 => ?_) (fun h206 => absurd h206 (by decide))
  refine mg_lload_n C dX5_digest_265 rfl ?_
  exact mg_lret C hQ dX5_digest_266 (⟨congrArg (fun z => some (Value.long z)) (by decide +kernel), trivial⟩)
