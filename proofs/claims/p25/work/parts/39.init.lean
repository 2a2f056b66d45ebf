def adG (q1 q2 q3 q4 h : Nat) : Nat → Nat := fun i => bif Nat.beq i 14 then q4 else bif Nat.beq i 15 then q3 else bif Nat.beq i 16 then q2 else bif Nat.beq i 17 then q1 else h
set_option maxHeartbeats 400000 in
set_option maxRecDepth 100000 in
theorem ct_X1_init (E : En) (h : Nat) (tl : va_W) : Ct E mX1_init 2 4 584 [.ref h] ((h, .inr (1, [.int 0, .int 0, .int 0, .int 0, .null, .null, .null, .null])) :: tl) (fun o w => o = none ∧ ∃ q1 q2 q3 q4 : Nat, w = gw E (adG q1 q2 q3 q4 h) gF aF tl) := by
  refine Ct.of (by decide) (Nat.le_of_ble_eq_true rfl) (fun X C hQ hin => ?_)
  have C : Cx E X cX1_init 1 RX1 none 2 80 4 584 := C
  refine mg_aload_n C dX1_init_0 rfl ?_
  refine mg_objInit C oX1_3 (by decide) (by decide) dX1_init_1 ?_
  refine mg_aload_n C dX1_init_4 rfl ?_
  refine mg_sipush (v := 192) C dX1_init_5 (by decide) ?_
  refine mg_newi C aI_ok (N := 192) (by decide) (by decide) (by decide) (by decide) (by decide) dX1_init_8 (fun q8 => ?_)
  refine mg_putF C inG_X1 fX1_9 (ci := 1) rfl rfl tyX1 tyX1_ok nmX1 rfl hin rfl 1 rfl rfl rfl rfl dX1_init_10 (ws' := ((q8, .inl (E.2.2.1, 192, .inl (fun _ => 0))) :: (h, .inr (1, [.int 0, .int 0, .int 0, .int 0, .ref q8, .null, .null, .null])) :: tl)) rfl ?_
  refine mg_aload_n C dX1_init_13 rfl ?_
  refine mg_sipush (v := 192) C dX1_init_14 (by decide) ?_
  refine mg_newi C aI_ok (N := 192) (by decide) (by decide) (by decide) (by decide) (by decide) dX1_init_17 (fun q17 => ?_)
  refine mg_putF C inG_X1 fX1_15 (ci := 1) rfl rfl tyX1 tyX1_ok nmX1 rfl hin rfl 2 rfl rfl rfl rfl dX1_init_19 (ws' := ((q17, .inl (E.2.2.1, 192, .inl (fun _ => 0))) :: (q8, .inl (E.2.2.1, 192, .inl (fun _ => 0))) :: (h, .inr (1, [.int 0, .int 0, .int 0, .int 0, .ref q8, .ref q17, .null, .null])) :: tl)) rfl ?_
  refine mg_aload_n C dX1_init_22 rfl ?_
  refine mg_sipush (v := 192) C dX1_init_23 (by decide) ?_
  refine mg_newi C aI_ok (N := 192) (by decide) (by decide) (by decide) (by decide) (by decide) dX1_init_26 (fun q26 => ?_)
  refine mg_putF C inG_X1 fX1_18 (ci := 1) rfl rfl tyX1 tyX1_ok nmX1 rfl hin rfl 3 rfl rfl rfl rfl dX1_init_28 (ws' := ((q26, .inl (E.2.2.1, 192, .inl (fun _ => 0))) :: (q17, .inl (E.2.2.1, 192, .inl (fun _ => 0))) :: (q8, .inl (E.2.2.1, 192, .inl (fun _ => 0))) :: (h, .inr (1, [.int 0, .int 0, .int 0, .int 0, .ref q8, .ref q17, .ref q26, .null])) :: tl)) rfl ?_
  refine mg_aload_n C dX1_init_31 rfl ?_
  refine mg_bipush (v := 8) C dX1_init_32 (by decide) ?_
  refine mg_newi C aI_ok (N := 8) (by decide) (by decide) (by decide) (by decide) (by decide) dX1_init_34 (fun q34 => ?_)
  refine mg_putF C inG_X1 fX1_21 (ci := 1) rfl rfl tyX1 tyX1_ok nmX1 rfl hin rfl 4 rfl rfl rfl rfl dX1_init_36 (ws' := ((q34, .inl (E.2.2.1, 8, .inl (fun _ => 0))) :: (q26, .inl (E.2.2.1, 192, .inl (fun _ => 0))) :: (q17, .inl (E.2.2.1, 192, .inl (fun _ => 0))) :: (q8, .inl (E.2.2.1, 192, .inl (fun _ => 0))) :: (h, .inr (1, [.int 0, .int 0, .int 0, .int 0, .ref q8, .ref q17, .ref q26, .ref q34])) :: tl)) rfl ?_
  refine mg_aload_n C dX1_init_39 rfl ?_
  refine mg_iconst (v := 1) C dX1_init_40 (by decide) ?_
  refine mg_iconst (v := 1) C dX1_init_41 (by decide) ?_
  refine mg_iconst (v := 1) C dX1_init_42 (by decide) ?_
  refine mg_ws (ws' := gw E (adG q8 q17 q26 q34 h) (fun _ => 0) (fun _ _ => 0) tl) rfl ?_
  refine mg_callV C (cg_X1_renew E _ _ _ _ _ _ _) oX1_24 4 rfl rfl rfl rfl rfl dX1_init_43 (fun o43 w43 z43 => ?_)
  obtain ⟨rfl, rfl⟩ := z43
  refine mg_v0 ?_
  exact mg_vret C hQ dX1_init_46 (⟨rfl, q8, q17, q26, q34, rfl⟩)
def sw (E : En) (q1 q2 q3 q4 q5 h gr : Nat) (tl : va_W) : va_W :=
  (q5, .inl (E.2.2.1, 256, .inl (fun _ => 0))) :: (q4, .inl (E.2.2.1, 64, .inl (fun _ => 0))) :: (q3, .inl (E.2.2.1, 24, .inl (fun _ => 0))) :: (q2, .inl (E.2.2.1, 8, .inl (fun _ => 0))) :: (q1, .inl (E.2.2.1, 96, .inl (fun _ => 0))) ::
  (h, .inr (3, [.ref gr, .int 0, .int 0, .int 0, .int 0, .int 0, .ref q1, .ref q2, .ref q3, .ref q4, .ref q5])) :: tl
def kw (E : En) (q1 q2 h gr : Nat) (tl : va_W) : va_W :=
  (q2, .inl (E.2.2.1, 8, .inl (fun _ => 0))) :: (q1, .inl (E.2.2.1, 8, .inl (fun _ => 0))) :: (h, .inr (0, [.ref gr, .int 0, .ref q1, .ref q2])) :: tl
def ew (E : En) (q1 q2 q3 q4 h : Nat) (tl : va_W) : va_W :=
  (q4, .inl (E.2.2.1, 16, .inl (fun _ => 0))) :: (q3, .inl (E.2.2.1, 5, .inl (fun _ => 0))) :: (q2, .inl (E.2.2.1, 2048, .inl (fun _ => 0))) :: (q1, .inl (E.2.2.2, 8000, .inr (.inl (fun _ => 0)))) ::
  (h, .inr (2, [.ref q1, .ref q2, .ref q3, .int 0, .int 0, .int 0, .int 0, .int 0, .ref q4, .int 0, .int (-1)])) :: tl
set_option maxHeartbeats 400000 in
set_option maxRecDepth 100000 in
theorem ct_X3_init (E : En) (h gr : Nat) (tl : va_W) : Ct E mX3_init 1 5 448 [.ref h, .ref gr] ((h, .inr (3, [.null, .int 0, .int 0, .int 0, .int 0, .int 0, .null, .null, .null, .null, .null])) :: tl) (fun o w => o = none ∧ ∃ q1 q2 q3 q4 q5 : Nat, w = sw E q1 q2 q3 q4 q5 h gr tl) := by
  refine Ct.of (by decide) (Nat.le_of_ble_eq_true rfl) (fun X C hQ hin => ?_)
  have C : Cx E X cX3_init 2 RX3 none 1 40 5 448 := C
  refine mg_aload_n C dX3_init_0 rfl ?_
  refine mg_objInit C oX3_3 (by decide) (by decide) dX3_init_1 ?_
  refine mg_aload_n C dX3_init_4 rfl ?_
  refine mg_bipush (v := 96) C dX3_init_5 (by decide) ?_
  refine mg_newi C aI_ok (N := 96) (by decide) (by decide) (by decide) (by decide) (by decide) dX3_init_7 (fun q7 => ?_)
  refine mg_putF C inG_X3 fX3_9 (ci := 3) rfl rfl tyX3 tyX3_ok nmX3 rfl hin rfl 1 rfl rfl rfl rfl dX3_init_9 (ws' := ((q7, .inl (E.2.2.1, 96, .inl (fun _ => 0))) :: (h, .inr (3, [.null, .int 0, .int 0, .int 0, .int 0, .int 0, .ref q7, .null, .null, .null, .null])) :: tl)) rfl ?_
  refine mg_aload_n C dX3_init_12 rfl ?_
  refine mg_bipush (v := 8) C dX3_init_13 (by decide) ?_
  refine mg_newi C aI_ok (N := 8) (by decide) (by decide) (by decide) (by decide) (by decide) dX3_init_15 (fun q15 => ?_)
  refine mg_putF C inG_X3 fX3_15 (ci := 3) rfl rfl tyX3 tyX3_ok nmX3 rfl hin rfl 2 rfl rfl rfl rfl dX3_init_17 (ws' := ((q15, .inl (E.2.2.1, 8, .inl (fun _ => 0))) :: (q7, .inl (E.2.2.1, 96, .inl (fun _ => 0))) :: (h, .inr (3, [.null, .int 0, .int 0, .int 0, .int 0, .int 0, .ref q7, .ref q15, .null, .null, .null])) :: tl)) rfl ?_
  refine mg_aload_n C dX3_init_20 rfl ?_
  refine mg_bipush (v := 24) C dX3_init_21 (by decide) ?_
  refine mg_newi C aI_ok (N := 24) (by decide) (by decide) (by decide) (by decide) (by decide) dX3_init_23 (fun q23 => ?_)
  refine mg_putF C inG_X3 fX3_18 (ci := 3) rfl rfl tyX3 tyX3_ok nmX3 rfl hin rfl 3 rfl rfl rfl rfl dX3_init_25 (ws' := ((q23, .inl (E.2.2.1, 24, .inl (fun _ => 0))) :: (q15, .inl (E.2.2.1, 8, .inl (fun _ => 0))) :: (q7, .inl (E.2.2.1, 96, .inl (fun _ => 0))) :: (h, .inr (3, [.null, .int 0, .int 0, .int 0, .int 0, .int 0, .ref q7, .ref q15, .ref q23, .null, .null])) :: tl)) rfl ?_
  refine mg_aload_n C dX3_init_28 rfl ?_
  refine mg_bipush (v := 64) C dX3_init_29 (by decide) ?_
  refine mg_newi C aI_ok (N := 64) (by decide) (by decide) (by decide) (by decide) (by decide) dX3_init_31 (fun q31 => ?_)
  refine mg_putF C inG_X3 fX3_21 (ci := 3) rfl rfl tyX3 tyX3_ok nmX3 rfl hin rfl 4 rfl rfl rfl rfl dX3_init_33 (ws' := ((q31, .inl (E.2.2.1, 64, .inl (fun _ => 0))) :: (q23, .inl (E.2.2.1, 24, .inl (fun _ => 0))) :: (q15, .inl (E.2.2.1, 8, .inl (fun _ => 0))) :: (q7, .inl (E.2.2.1, 96, .inl (fun _ => 0))) :: (h, .inr (3, [.null, .int 0, .int 0, .int 0, .int 0, .int 0, .ref q7, .ref q15, .ref q23, .ref q31, .null])) :: tl)) rfl ?_
  refine mg_aload_n C dX3_init_36 rfl ?_
  refine mg_sipush (v := 256) C dX3_init_37 (by decide) ?_
  refine mg_newi C aI_ok (N := 256) (by decide) (by decide) (by decide) (by decide) (by decide) dX3_init_40 (fun q40 => ?_)
  refine mg_putF C inG_X3 fX3_24 (ci := 3) rfl rfl tyX3 tyX3_ok nmX3 rfl hin rfl 5 rfl rfl rfl rfl dX3_init_42 (ws' := ((q40, .inl (E.2.2.1, 256, .inl (fun _ => 0))) :: (q31, .inl (E.2.2.1, 64, .inl (fun _ => 0))) :: (q23, .inl (E.2.2.1, 24, .inl (fun _ => 0))) :: (q15, .inl (E.2.2.1, 8, .inl (fun _ => 0))) :: (q7, .inl (E.2.2.1, 96, .inl (fun _ => 0))) :: (h, .inr (3, [.null, .int 0, .int 0, .int 0, .int 0, .int 0, .ref q7, .ref q15, .ref q23, .ref q31, .ref q40])) :: tl)) rfl ?_
  refine mg_aload_n C dX3_init_45 rfl ?_
  refine mg_aload_n C dX3_init_46 rfl ?_
  refine mg_putF C inG_X3 fX3_27 (ci := 3) rfl rfl tyX3 tyX3_ok nmX3 rfl hin rfl 5 rfl rfl rfl rfl dX3_init_47 (ws' := ((q40, .inl (E.2.2.1, 256, .inl (fun _ => 0))) :: (q31, .inl (E.2.2.1, 64, .inl (fun _ => 0))) :: (q23, .inl (E.2.2.1, 24, .inl (fun _ => 0))) :: (q15, .inl (E.2.2.1, 8, .inl (fun _ => 0))) :: (q7, .inl (E.2.2.1, 96, .inl (fun _ => 0))) :: (h, .inr (3, [.ref gr, .int 0, .int 0, .int 0, .int 0, .int 0, .ref q7, .ref q15, .ref q23, .ref q31, .ref q40])) :: tl)) rfl ?_
  exact mg_vret C hQ dX3_init_50 (⟨rfl, q7, q15, q23, q31, q40, rfl⟩)
set_option maxHeartbeats 400000 in
set_option maxRecDepth 100000 in
theorem ct_X0_init (E : En) (h gr : Nat) (tl : va_W) : Ct E mX0_init 1 2 16 [.ref h, .ref gr] ((h, .inr (0, [.null, .int 0, .null, .null])) :: tl) (fun o w => o = none ∧ ∃ q1 q2 : Nat, w = kw E q1 q2 h gr tl) := by
  refine Ct.of (by decide) (Nat.le_of_ble_eq_true rfl) (fun X C hQ hin => ?_)
  have C : Cx E X cX0_init 2 RX0 none 1 40 2 16 := C
  refine mg_aload_n C dX0_init_0 rfl ?_
  refine mg_objInit C oX0_3 (by decide) (by decide) dX0_init_1 ?_
  refine mg_aload_n C dX0_init_4 rfl ?_
  refine mg_bipush (v := 8) C dX0_init_5 (by decide) ?_
  refine mg_newi C aI_ok (N := 8) (by decide) (by decide) (by decide) (by decide) (by decide) dX0_init_7 (fun q7 => ?_)
  refine mg_putF C inG_X0 fX0_9 (ci := 0) rfl rfl tyX0 tyX0_ok nmX0 rfl hin rfl 1 rfl rfl rfl rfl dX0_init_9 (ws' := ((q7, .inl (E.2.2.1, 8, .inl (fun _ => 0))) :: (h, .inr (0, [.null, .int 0, .ref q7, .null])) :: tl)) rfl ?_
  refine mg_aload_n C dX0_init_12 rfl ?_
  refine mg_bipush (v := 8) C dX0_init_13 (by decide) ?_
  refine mg_newi C aI_ok (N := 8) (by decide) (by decide) (by decide) (by decide) (by decide) dX0_init_15 (fun q15 => ?_)
  refine mg_putF C inG_X0 fX0_15 (ci := 0) rfl rfl tyX0 tyX0_ok nmX0 rfl hin rfl 2 rfl rfl rfl rfl dX0_init_17 (ws' := ((q15, .inl (E.2.2.1, 8, .inl (fun _ => 0))) :: (q7, .inl (E.2.2.1, 8, .inl (fun _ => 0))) :: (h, .inr (0, [.null, .int 0, .ref q7, .ref q15])) :: tl)) rfl ?_
  refine mg_aload_n C dX0_init_20 rfl ?_
  refine mg_aload_n C dX0_init_21 rfl ?_
  refine mg_putF C inG_X0 fX0_18 (ci := 0) rfl rfl tyX0 tyX0_ok nmX0 rfl hin rfl 2 rfl rfl rfl rfl dX0_init_22 (ws' := ((q15, .inl (E.2.2.1, 8, .inl (fun _ => 0))) :: (q7, .inl (E.2.2.1, 8, .inl (fun _ => 0))) :: (h, .inr (0, [.ref gr, .int 0, .ref q7, .ref q15])) :: tl)) rfl ?_
  exact mg_vret C hQ dX0_init_25 (⟨rfl, q7, q15, rfl⟩)
set_option maxHeartbeats 400000 in
set_option maxRecDepth 100000 in
theorem ct_X2_init (E : En) (h : Nat) (tl : va_W) : Ct E mX2_init 1 4 10069 [.ref h] ((h, .inr (2, [.null, .null, .null, .int 0, .int 0, .int 0, .int 0, .int 0, .null, .int 0, .int 0])) :: tl) (fun o w => o = none ∧ ∃ q1 q2 q3 q4 : Nat, w = ew E q1 q2 q3 q4 h tl) := by
  refine Ct.of (by decide) (Nat.le_of_ble_eq_true rfl) (fun X C hQ hin => ?_)
  have C : Cx E X cX2_init 1 RX2 none 1 40 4 10069 := C
  refine mg_aload_n C dX2_init_0 rfl ?_
  refine mg_objInit C oX2_3 (by decide) (by decide) dX2_init_1 ?_
  refine mg_aload_n C dX2_init_4 rfl ?_
  refine mg_sipush (v := 8000) C dX2_init_5 (by decide) ?_
  refine mg_newl C aJ_ok (N := 8000) (by decide) (by decide) (by decide) (by decide) (by decide) dX2_init_8 (fun q8 => ?_)
  refine mg_putF C inG_X2 fX2_9 (ci := 2) rfl rfl tyX2 tyX2_ok nmX2 rfl hin rfl 1 rfl rfl rfl rfl dX2_init_10 (ws' := ((q8, .inl (E.2.2.2, 8000, .inr (.inl (fun _ => 0)))) :: (h, .inr (2, [.ref q8, .null, .null, .int 0, .int 0, .int 0, .int 0, .int 0, .null, .int 0, .int 0])) :: tl)) rfl ?_
  refine mg_aload_n C dX2_init_13 rfl ?_
  refine mg_sipush (v := 2048) C dX2_init_14 (by decide) ?_
  refine mg_newi C aI_ok (N := 2048) (by decide) (by decide) (by decide) (by decide) (by decide) dX2_init_17 (fun q17 => ?_)
  refine mg_putF C inG_X2 fX2_15 (ci := 2) rfl rfl tyX2 tyX2_ok nmX2 rfl hin rfl 2 rfl rfl rfl rfl dX2_init_19 (ws' := ((q17, .inl (E.2.2.1, 2048, .inl (fun _ => 0))) :: (q8, .inl (E.2.2.2, 8000, .inr (.inl (fun _ => 0)))) :: (h, .inr (2, [.ref q8, .ref q17, .null, .int 0, .int 0, .int 0, .int 0, .int 0, .null, .int 0, .int 0])) :: tl)) rfl ?_
  refine mg_aload_n C dX2_init_22 rfl ?_
  refine mg_iconst (v := 5) C dX2_init_23 (by decide) ?_
  refine mg_newi C aI_ok (N := 5) (by decide) (by decide) (by decide) (by decide) (by decide) dX2_init_24 (fun q24 => ?_)
  refine mg_putF C inG_X2 fX2_19 (ci := 2) rfl rfl tyX2 tyX2_ok nmX2 rfl hin rfl 3 rfl rfl rfl rfl dX2_init_26 (ws' := ((q24, .inl (E.2.2.1, 5, .inl (fun _ => 0))) :: (q17, .inl (E.2.2.1, 2048, .inl (fun _ => 0))) :: (q8, .inl (E.2.2.2, 8000, .inr (.inl (fun _ => 0)))) :: (h, .inr (2, [.ref q8, .ref q17, .ref q24, .int 0, .int 0, .int 0, .int 0, .int 0, .null, .int 0, .int 0])) :: tl)) rfl ?_
  refine mg_aload_n C dX2_init_29 rfl ?_
  refine mg_bipush (v := 16) C dX2_init_30 (by decide) ?_
  refine mg_newi C aI_ok (N := 16) (by decide) (by decide) (by decide) (by decide) (by decide) dX2_init_32 (fun q32 => ?_)
  refine mg_put C inG_X2 fX2_22 (ci := 2) rfl rfl tyX2 tyX2_ok nmX2 rfl 4 rfl rfl rfl rfl dX2_init_34 (ws' := ((q32, .inl (E.2.2.1, 16, .inl (fun _ => 0))) :: (q24, .inl (E.2.2.1, 5, .inl (fun _ => 0))) :: (q17, .inl (E.2.2.1, 2048, .inl (fun _ => 0))) :: (q8, .inl (E.2.2.2, 8000, .inr (.inl (fun _ => 0)))) :: (h, .inr (2, [.ref q8, .ref q17, .ref q24, .int 0, .int 0, .int 0, .int 0, .int 0, .ref q32, .int 0, .int 0])) :: tl)) rfl ?_
  refine mg_aload_n C dX2_init_37 rfl ?_
  refine mg_iconst (v := (-1)) C dX2_init_38 (by decide) ?_
  refine mg_put C inG_X2 fX2_25 (ci := 2) rfl rfl tyX2 tyX2_ok nmX2 rfl 4 rfl rfl rfl rfl dX2_init_39 (ws' := ((q32, .inl (E.2.2.1, 16, .inl (fun _ => 0))) :: (q24, .inl (E.2.2.1, 5, .inl (fun _ => 0))) :: (q17, .inl (E.2.2.1, 2048, .inl (fun _ => 0))) :: (q8, .inl (E.2.2.2, 8000, .inr (.inl (fun _ => 0)))) :: (h, .inr (2, [.ref q8, .ref q17, .ref q24, .int 0, .int 0, .int 0, .int 0, .int 0, .ref q32, .int 0, .int (-1)])) :: tl)) rfl ?_
  exact mg_vret C hQ dX2_init_42 (⟨rfl, q8, q17, q24, q32, rfl⟩)
def adL (l : List Nat) : Nat → Nat := fun i => l.getD i 0
set_option maxHeartbeats 400000 in
set_option maxRecDepth 100000 in
theorem ct_X4_init (E : En) (h : Nat) (tl : va_W) : Ct E mX4_init 3 19 11151 [.ref h] ((h, .inr (4, [.null, .null, .null, .null])) :: tl) (fun o w => o = none ∧ ∃ l : List Nat, adL l 19 = h ∧ w = cw E (adL l) 16 gF aF vF tl) := by
  refine Ct.of (by decide) (Nat.le_of_ble_eq_true rfl) (fun X C hQ hin => ?_)
  have C : Cx E X cX4_init 1 RX4 none 3 120 19 11151 := C
  refine mg_aload_n C dX4_init_0 rfl ?_
  refine mg_objInit C oX4_1 (by decide) (by decide) dX4_init_1 ?_
  refine mg_aload_n C dX4_init_4 rfl ?_
  refine mg_new C inG_X1 tyX1 tyX1_ok nX4_7 (ci := 1) rfl (fs := [.int 0, .int 0, .int 0, .int 0, .null, .null, .null, .null]) rfl (by decide) (by decide) dX4_init_5 (fun q5 => ?_)
  refine mg_dup C dX4_init_8 rfl ?_
  refine mg_callIN C (ct_X1_init E _ _) oX4_9 rfl rfl rfl rfl dX4_init_9 (fun o9 w9 z9 => ?_)
  obtain ⟨rfl, qg1, qg2, qg3, qg4, rfl⟩ := z9
  refine mg_ws (ws' := ((qg4, .inl (E.2.2.1, 8, .inl (aF 3))) :: (qg3, .inl (E.2.2.1, 192, .inl (aF 2))) :: (qg2, .inl (E.2.2.1, 192, .inl (aF 1))) :: (qg1, .inl (E.2.2.1, 192, .inl (aF 0))) :: (q5, .inr (1, [.int (gF 0), .int (gF 1), .int (gF 2), .int (gF 3), .ref qg1, .ref qg2, .ref qg3, .ref qg4])) :: (h, .inr (4, [.null, .null, .null, .null])) :: tl)) rfl ?_
  refine mg_v0 ?_
  refine mg_putF C inG_X4 fX4_10 (ci := 4) rfl rfl tyX4 tyX4_ok nmX4 rfl hin rfl 5 rfl rfl rfl rfl dX4_init_12 (ws' := ((qg4, .inl (E.2.2.1, 8, .inl (aF 3))) :: (qg3, .inl (E.2.2.1, 192, .inl (aF 2))) :: (qg2, .inl (E.2.2.1, 192, .inl (aF 1))) :: (qg1, .inl (E.2.2.1, 192, .inl (aF 0))) :: (q5, .inr (1, [.int (gF 0), .int (gF 1), .int (gF 2), .int (gF 3), .ref qg1, .ref qg2, .ref qg3, .ref qg4])) :: (h, .inr (4, [.ref q5, .null, .null, .null])) :: tl)) rfl ?_
  refine mg_aload_n C dX4_init_15 rfl ?_
  refine mg_new C inG_X3 tyX3 tyX3_ok nX4_16 (ci := 3) rfl (fs := [.null, .int 0, .int 0, .int 0, .int 0, .int 0, .null, .null, .null, .null, .null]) rfl (by decide) (by decide) dX4_init_16 (fun q16 => ?_)
  refine mg_dup C dX4_init_19 rfl ?_
  refine mg_aload_n C dX4_init_20 rfl ?_
  refine mg_get C inG_X4 fX4_10 (ci := 4) rfl rfl 6 rfl rfl dX4_init_21 ?_
  refine mg_callIN C (ct_X3_init E _ _ _) oX4_18 rfl rfl rfl rfl dX4_init_24 (fun o24 w24 z24 => ?_)
  obtain ⟨rfl, qs1, qs2, qs3, qs4, qs5, rfl⟩ := z24
  refine mg_ws (ws' := ((qs5, .inl (E.2.2.1, 256, .inl (fun _ => 0))) :: (qs4, .inl (E.2.2.1, 64, .inl (fun _ => 0))) :: (qs3, .inl (E.2.2.1, 24, .inl (fun _ => 0))) :: (qs2, .inl (E.2.2.1, 8, .inl (fun _ => 0))) :: (qs1, .inl (E.2.2.1, 96, .inl (fun _ => 0))) :: (q16, .inr (3, [.ref q5, .int 0, .int 0, .int 0, .int 0, .int 0, .ref qs1, .ref qs2, .ref qs3, .ref qs4, .ref qs5])) :: (qg4, .inl (E.2.2.1, 8, .inl (aF 3))) :: (qg3, .inl (E.2.2.1, 192, .inl (aF 2))) :: (qg2, .inl (E.2.2.1, 192, .inl (aF 1))) :: (qg1, .inl (E.2.2.1, 192, .inl (aF 0))) :: (q5, .inr (1, [.int (gF 0), .int (gF 1), .int (gF 2), .int (gF 3), .ref qg1, .ref qg2, .ref qg3, .ref qg4])) :: (h, .inr (4, [.ref q5, .null, .null, .null])) :: tl)) rfl ?_
  refine mg_v0 ?_
  refine mg_putF C inG_X4 fX4_21 (ci := 4) rfl rfl tyX4 tyX4_ok nmX4 rfl hin rfl 11 rfl rfl rfl rfl dX4_init_27 (ws' := ((qs5, .inl (E.2.2.1, 256, .inl (fun _ => 0))) :: (qs4, .inl (E.2.2.1, 64, .inl (fun _ => 0))) :: (qs3, .inl (E.2.2.1, 24, .inl (fun _ => 0))) :: (qs2, .inl (E.2.2.1, 8, .inl (fun _ => 0))) :: (qs1, .inl (E.2.2.1, 96, .inl (fun _ => 0))) :: (q16, .inr (3, [.ref q5, .int 0, .int 0, .int 0, .int 0, .int 0, .ref qs1, .ref qs2, .ref qs3, .ref qs4, .ref qs5])) :: (qg4, .inl (E.2.2.1, 8, .inl (aF 3))) :: (qg3, .inl (E.2.2.1, 192, .inl (aF 2))) :: (qg2, .inl (E.2.2.1, 192, .inl (aF 1))) :: (qg1, .inl (E.2.2.1, 192, .inl (aF 0))) :: (q5, .inr (1, [.int (gF 0), .int (gF 1), .int (gF 2), .int (gF 3), .ref qg1, .ref qg2, .ref qg3, .ref qg4])) :: (h, .inr (4, [.ref q5, .ref q16, .null, .null])) :: tl)) rfl ?_
  refine mg_aload_n C dX4_init_30 rfl ?_
  refine mg_new C inG_X0 tyX0 tyX0_ok nX4_25 (ci := 0) rfl (fs := [.null, .int 0, .null, .null]) rfl (by decide) (by decide) dX4_init_31 (fun q31 => ?_)
  refine mg_dup C dX4_init_34 rfl ?_
  refine mg_aload_n C dX4_init_35 rfl ?_
  refine mg_get C inG_X4 fX4_10 (ci := 4) rfl rfl 12 rfl rfl dX4_init_36 ?_
  refine mg_callIN C (ct_X0_init E _ _ _) oX4_27 rfl rfl rfl rfl dX4_init_39 (fun o39 w39 z39 => ?_)
  obtain ⟨rfl, qk1, qk2, rfl⟩ := z39
  refine mg_ws (ws' := ((qk2, .inl (E.2.2.1, 8, .inl (fun _ => 0))) :: (qk1, .inl (E.2.2.1, 8, .inl (fun _ => 0))) :: (q31, .inr (0, [.ref q5, .int 0, .ref qk1, .ref qk2])) :: (qs5, .inl (E.2.2.1, 256, .inl (fun _ => 0))) :: (qs4, .inl (E.2.2.1, 64, .inl (fun _ => 0))) :: (qs3, .inl (E.2.2.1, 24, .inl (fun _ => 0))) :: (qs2, .inl (E.2.2.1, 8, .inl (fun _ => 0))) :: (qs1, .inl (E.2.2.1, 96, .inl (fun _ => 0))) :: (q16, .inr (3, [.ref q5, .int 0, .int 0, .int 0, .int 0, .int 0, .ref qs1, .ref qs2, .ref qs3, .ref qs4, .ref qs5])) :: (qg4, .inl (E.2.2.1, 8, .inl (aF 3))) :: (qg3, .inl (E.2.2.1, 192, .inl (aF 2))) :: (qg2, .inl (E.2.2.1, 192, .inl (aF 1))) :: (qg1, .inl (E.2.2.1, 192, .inl (aF 0))) :: (q5, .inr (1, [.int (gF 0), .int (gF 1), .int (gF 2), .int (gF 3), .ref qg1, .ref qg2, .ref qg3, .ref qg4])) :: (h, .inr (4, [.ref q5, .ref q16, .null, .null])) :: tl)) rfl ?_
  refine mg_v0 ?_
  refine mg_putF C inG_X4 fX4_28 (ci := 4) rfl rfl tyX4 tyX4_ok nmX4 rfl hin rfl 14 rfl rfl rfl rfl dX4_init_42 (ws' := ((qk2, .inl (E.2.2.1, 8, .inl (fun _ => 0))) :: (qk1, .inl (E.2.2.1, 8, .inl (fun _ => 0))) :: (q31, .inr (0, [.ref q5, .int 0, .ref qk1, .ref qk2])) :: (qs5, .inl (E.2.2.1, 256, .inl (fun _ => 0))) :: (qs4, .inl (E.2.2.1, 64, .inl (fun _ => 0))) :: (qs3, .inl (E.2.2.1, 24, .inl (fun _ => 0))) :: (qs2, .inl (E.2.2.1, 8, .inl (fun _ => 0))) :: (qs1, .inl (E.2.2.1, 96, .inl (fun _ => 0))) :: (q16, .inr (3, [.ref q5, .int 0, .int 0, .int 0, .int 0, .int 0, .ref qs1, .ref qs2, .ref qs3, .ref qs4, .ref qs5])) :: (qg4, .inl (E.2.2.1, 8, .inl (aF 3))) :: (qg3, .inl (E.2.2.1, 192, .inl (aF 2))) :: (qg2, .inl (E.2.2.1, 192, .inl (aF 1))) :: (qg1, .inl (E.2.2.1, 192, .inl (aF 0))) :: (q5, .inr (1, [.int (gF 0), .int (gF 1), .int (gF 2), .int (gF 3), .ref qg1, .ref qg2, .ref qg3, .ref qg4])) :: (h, .inr (4, [.ref q5, .ref q16, .ref q31, .null])) :: tl)) rfl ?_
  refine mg_aload_n C dX4_init_45 rfl ?_
  refine mg_new C inG_X2 tyX2 tyX2_ok nX4_32 (ci := 2) rfl (fs := [.null, .null, .null, .int 0, .int 0, .int 0, .int 0, .int 0, .null, .int 0, .int 0]) rfl (by decide) (by decide) dX4_init_46 (fun q46 => ?_)
  refine mg_dup C dX4_init_49 rfl ?_
  refine mg_callIN C (ct_X2_init E _ _) oX4_34 rfl rfl rfl rfl dX4_init_50 (fun o50 w50 z50 => ?_)
  obtain ⟨rfl, qe1, qe2, qe3, qe4, rfl⟩ := z50
  refine mg_ws (ws' := ((qe4, .inl (E.2.2.1, 16, .inl (fun _ => 0))) :: (qe3, .inl (E.2.2.1, 5, .inl (fun _ => 0))) :: (qe2, .inl (E.2.2.1, 2048, .inl (fun _ => 0))) :: (qe1, .inl (E.2.2.2, 8000, .inr (.inl (fun _ => 0)))) :: (q46, .inr (2, [.ref qe1, .ref qe2, .ref qe3, .int 0, .int 0, .int 0, .int 0, .int 0, .ref qe4, .int 0, .int (-1)])) :: (qk2, .inl (E.2.2.1, 8, .inl (fun _ => 0))) :: (qk1, .inl (E.2.2.1, 8, .inl (fun _ => 0))) :: (q31, .inr (0, [.ref q5, .int 0, .ref qk1, .ref qk2])) :: (qs5, .inl (E.2.2.1, 256, .inl (fun _ => 0))) :: (qs4, .inl (E.2.2.1, 64, .inl (fun _ => 0))) :: (qs3, .inl (E.2.2.1, 24, .inl (fun _ => 0))) :: (qs2, .inl (E.2.2.1, 8, .inl (fun _ => 0))) :: (qs1, .inl (E.2.2.1, 96, .inl (fun _ => 0))) :: (q16, .inr (3, [.ref q5, .int 0, .int 0, .int 0, .int 0, .int 0, .ref qs1, .ref qs2, .ref qs3, .ref qs4, .ref qs5])) :: (qg4, .inl (E.2.2.1, 8, .inl (aF 3))) :: (qg3, .inl (E.2.2.1, 192, .inl (aF 2))) :: (qg2, .inl (E.2.2.1, 192, .inl (aF 1))) :: (qg1, .inl (E.2.2.1, 192, .inl (aF 0))) :: (q5, .inr (1, [.int (gF 0), .int (gF 1), .int (gF 2), .int (gF 3), .ref qg1, .ref qg2, .ref qg3, .ref qg4])) :: (h, .inr (4, [.ref q5, .ref q16, .ref q31, .null])) :: tl)) rfl ?_
  refine mg_v0 ?_
  refine mg_putF C inG_X4 fX4_35 (ci := 4) rfl rfl tyX4 tyX4_ok nmX4 rfl hin rfl 19 rfl rfl rfl rfl dX4_init_53 (ws' := ((qe4, .inl (E.2.2.1, 16, .inl (fun _ => 0))) :: (qe3, .inl (E.2.2.1, 5, .inl (fun _ => 0))) :: (qe2, .inl (E.2.2.1, 2048, .inl (fun _ => 0))) :: (qe1, .inl (E.2.2.2, 8000, .inr (.inl (fun _ => 0)))) :: (q46, .inr (2, [.ref qe1, .ref qe2, .ref qe3, .int 0, .int 0, .int 0, .int 0, .int 0, .ref qe4, .int 0, .int (-1)])) :: (qk2, .inl (E.2.2.1, 8, .inl (fun _ => 0))) :: (qk1, .inl (E.2.2.1, 8, .inl (fun _ => 0))) :: (q31, .inr (0, [.ref q5, .int 0, .ref qk1, .ref qk2])) :: (qs5, .inl (E.2.2.1, 256, .inl (fun _ => 0))) :: (qs4, .inl (E.2.2.1, 64, .inl (fun _ => 0))) :: (qs3, .inl (E.2.2.1, 24, .inl (fun _ => 0))) :: (qs2, .inl (E.2.2.1, 8, .inl (fun _ => 0))) :: (qs1, .inl (E.2.2.1, 96, .inl (fun _ => 0))) :: (q16, .inr (3, [.ref q5, .int 0, .int 0, .int 0, .int 0, .int 0, .ref qs1, .ref qs2, .ref qs3, .ref qs4, .ref qs5])) :: (qg4, .inl (E.2.2.1, 8, .inl (aF 3))) :: (qg3, .inl (E.2.2.1, 192, .inl (aF 2))) :: (qg2, .inl (E.2.2.1, 192, .inl (aF 1))) :: (qg1, .inl (E.2.2.1, 192, .inl (aF 0))) :: (q5, .inr (1, [.int (gF 0), .int (gF 1), .int (gF 2), .int (gF 3), .ref qg1, .ref qg2, .ref qg3, .ref qg4])) :: (h, .inr (4, [.ref q5, .ref q16, .ref q31, .ref q46])) :: tl)) rfl ?_
  exact mg_vret C hQ dX4_init_56 (⟨rfl, [qe4, qe3, qe2, qe1, q46, qk2, qk1, q31, qs5, qs4, qs3, qs2, qs1, q16, qg4, qg3, qg2, qg1, q5, h], rfl, rfl⟩)
set_option maxHeartbeats 400000 in
set_option maxRecDepth 100000 in
theorem ct_X5_init (E : En) (h : Nat) (tl : va_W) : Ct E mX5_init 1 17 49177 [.ref h] ((h, .inr (5, [.int 0, .int 0, .int 0, .null, .null, .null, .null, .int 0, .int 0, .int 0, .int 0, .int 0, .int 0, .null, .null, .null, .null, .null, .null, .null, .null, .null, .null, .null, .null, .int 0, .int 0, .null, .int 0])) :: tl) (fun o w => o = none ∧ ∃ l : List Nat, adL l 17 = h ∧ w = mw E (adL l) gF aF vF tl) := by
  refine Ct.of (by decide) (Nat.le_of_ble_eq_true rfl) (fun X C hQ hin => ?_)
  have C : Cx E X cX5_init 1 RX5 none 1 40 17 49177 := C
  refine mg_aload_n C dX5_init_0 rfl ?_
  refine mg_objInit C oX5_1 (by decide) (by decide) dX5_init_1 ?_
  refine mg_aload_n C dX5_init_4 rfl ?_
  refine mg_iconst (v := 1) C dX5_init_5 (by decide) ?_
  refine mg_put C inG_X5 fX5_7 (ci := 5) rfl rfl tyX5 tyX5_ok nmX5 rfl 0 rfl rfl rfl rfl dX5_init_6 (ws' := ((h, .inr (5, [.int 1, .int 0, .int 0, .null, .null, .null, .null, .int 0, .int 0, .int 0, .int 0, .int 0, .int 0, .null, .null, .null, .null, .null, .null, .null, .null, .null, .null, .null, .null, .int 0, .int 0, .null, .int 0])) :: tl)) rfl ?_
  refine mg_aload_n C dX5_init_9 rfl ?_
  refine mg_iconst (v := 1) C dX5_init_10 (by decide) ?_
  refine mg_put C inG_X5 fX5_13 (ci := 5) rfl rfl tyX5 tyX5_ok nmX5 rfl 0 rfl rfl rfl rfl dX5_init_11 (ws' := ((h, .inr (5, [.int 1, .int 1, .int 0, .null, .null, .null, .null, .int 0, .int 0, .int 0, .int 0, .int 0, .int 0, .null, .null, .null, .null, .null, .null, .null, .null, .null, .null, .null, .null, .int 0, .int 0, .null, .int 0])) :: tl)) rfl ?_
  refine mg_aload_n C dX5_init_14 rfl ?_
  refine mg_iconst (v := 1) C dX5_init_15 (by decide) ?_
  refine mg_put C inG_X5 fX5_16 (ci := 5) rfl rfl tyX5 tyX5_ok nmX5 rfl 0 rfl rfl rfl rfl dX5_init_16 (ws' := ((h, .inr (5, [.int 1, .int 1, .int 1, .null, .null, .null, .null, .int 0, .int 0, .int 0, .int 0, .int 0, .int 0, .null, .null, .null, .null, .null, .null, .null, .null, .null, .null, .null, .null, .int 0, .int 0, .null, .int 0])) :: tl)) rfl ?_
  refine mg_aload_n C dX5_init_19 rfl ?_
  refine mg_sipush (v := 192) C dX5_init_20 (by decide) ?_
  refine mg_newi C aI_ok (N := 192) (by decide) (by decide) (by decide) (by decide) (by decide) dX5_init_23 (fun q23 => ?_)
  refine mg_putF C inG_X5 fX5_19 (ci := 5) rfl rfl tyX5 tyX5_ok nmX5 rfl hin rfl 1 rfl rfl rfl rfl dX5_init_25 (ws' := ((q23, .inl (E.2.2.1, 192, .inl (fun _ => 0))) :: (h, .inr (5, [.int 1, .int 1, .int 1, .ref q23, .null, .null, .null, .int 0, .int 0, .int 0, .int 0, .int 0, .int 0, .null, .null, .null, .null, .null, .null, .null, .null, .null, .null, .null, .null, .int 0, .int 0, .null, .int 0])) :: tl)) rfl ?_
  refine mg_aload_n C dX5_init_28 rfl ?_
  refine mg_sipush (v := 192) C dX5_init_29 (by decide) ?_
  refine mg_newi C aI_ok (N := 192) (by decide) (by decide) (by decide) (by decide) (by decide) dX5_init_32 (fun q32 => ?_)
  refine mg_putF C inG_X5 fX5_23 (ci := 5) rfl rfl tyX5 tyX5_ok nmX5 rfl hin rfl 2 rfl rfl rfl rfl dX5_init_34 (ws' := ((q32, .inl (E.2.2.1, 192, .inl (fun _ => 0))) :: (q23, .inl (E.2.2.1, 192, .inl (fun _ => 0))) :: (h, .inr (5, [.int 1, .int 1, .int 1, .ref q23, .ref q32, .null, .null, .int 0, .int 0, .int 0, .int 0, .int 0, .int 0, .null, .null, .null, .null, .null, .null, .null, .null, .null, .null, .null, .null, .int 0, .int 0, .null, .int 0])) :: tl)) rfl ?_
  refine mg_aload_n C dX5_init_37 rfl ?_
  refine mg_sipush (v := 192) C dX5_init_38 (by decide) ?_
  refine mg_newi C aI_ok (N := 192) (by decide) (by decide) (by decide) (by decide) (by decide) dX5_init_41 (fun q41 => ?_)
  refine mg_putF C inG_X5 fX5_26 (ci := 5) rfl rfl tyX5 tyX5_ok nmX5 rfl hin rfl 3 rfl rfl rfl rfl dX5_init_43 (ws' := ((q41, .inl (E.2.2.1, 192, .inl (fun _ => 0))) :: (q32, .inl (E.2.2.1, 192, .inl (fun _ => 0))) :: (q23, .inl (E.2.2.1, 192, .inl (fun _ => 0))) :: (h, .inr (5, [.int 1, .int 1, .int 1, .ref q23, .ref q32, .ref q41, .null, .int 0, .int 0, .int 0, .int 0, .int 0, .int 0, .null, .null, .null, .null, .null, .null, .null, .null, .null, .null, .null, .null, .int 0, .int 0, .null, .int 0])) :: tl)) rfl ?_
  refine mg_aload_n C dX5_init_46 rfl ?_
  refine mg_bipush (v := 8) C dX5_init_47 (by decide) ?_
  refine mg_newi C aI_ok (N := 8) (by decide) (by decide) (by decide) (by decide) (by decide) dX5_init_49 (fun q49 => ?_)
  refine mg_putF C inG_X5 fX5_29 (ci := 5) rfl rfl tyX5 tyX5_ok nmX5 rfl hin rfl 4 rfl rfl rfl rfl dX5_init_51 (ws' := ((q49, .inl (E.2.2.1, 8, .inl (fun _ => 0))) :: (q41, .inl (E.2.2.1, 192, .inl (fun _ => 0))) :: (q32, .inl (E.2.2.1, 192, .inl (fun _ => 0))) :: (q23, .inl (E.2.2.1, 192, .inl (fun _ => 0))) :: (h, .inr (5, [.int 1, .int 1, .int 1, .ref q23, .ref q32, .ref q41, .ref q49, .int 0, .int 0, .int 0, .int 0, .int 0, .int 0, .null, .null, .null, .null, .null, .null, .null, .null, .null, .null, .null, .null, .int 0, .int 0, .null, .int 0])) :: tl)) rfl ?_
  refine mg_aload_n C dX5_init_54 rfl ?_
  refine mg_bipush (v := 16) C dX5_init_55 (by decide) ?_
  refine mg_put C inG_X5 fX5_32 (ci := 5) rfl rfl tyX5 tyX5_ok nmX5 rfl 4 rfl rfl rfl rfl dX5_init_57 (ws' := ((q49, .inl (E.2.2.1, 8, .inl (fun _ => 0))) :: (q41, .inl (E.2.2.1, 192, .inl (fun _ => 0))) :: (q32, .inl (E.2.2.1, 192, .inl (fun _ => 0))) :: (q23, .inl (E.2.2.1, 192, .inl (fun _ => 0))) :: (h, .inr (5, [.int 1, .int 1, .int 1, .ref q23, .ref q32, .ref q41, .ref q49, .int 16, .int 0, .int 0, .int 0, .int 0, .int 0, .null, .null, .null, .null, .null, .null, .null, .null, .null, .null, .null, .null, .int 0, .int 0, .null, .int 0])) :: tl)) rfl ?_
  refine mg_aload_n C dX5_init_60 rfl ?_
  refine mg_bipush (v := 96) C dX5_init_61 (by decide) ?_
  refine mg_newi C aI_ok (N := 96) (by decide) (by decide) (by decide) (by decide) (by decide) dX5_init_63 (fun q63 => ?_)
  refine mg_putF C inG_X5 fX5_35 (ci := 5) rfl rfl tyX5 tyX5_ok nmX5 rfl hin rfl 5 rfl rfl rfl rfl dX5_init_65 (ws' := ((q63, .inl (E.2.2.1, 96, .inl (fun _ => 0))) :: (q49, .inl (E.2.2.1, 8, .inl (fun _ => 0))) :: (q41, .inl (E.2.2.1, 192, .inl (fun _ => 0))) :: (q32, .inl (E.2.2.1, 192, .inl (fun _ => 0))) :: (q23, .inl (E.2.2.1, 192, .inl (fun _ => 0))) :: (h, .inr (5, [.int 1, .int 1, .int 1, .ref q23, .ref q32, .ref q41, .ref q49, .int 16, .int 0, .int 0, .int 0, .int 0, .int 0, .ref q63, .null, .null, .null, .null, .null, .null, .null, .null, .null, .null, .null, .int 0, .int 0, .null, .int 0])) :: tl)) rfl ?_
  refine mg_aload_n C dX5_init_68 rfl ?_
  refine mg_bipush (v := 8) C dX5_init_69 (by decide) ?_
  refine mg_newi C aI_ok (N := 8) (by decide) (by decide) (by decide) (by decide) (by decide) dX5_init_71 (fun q71 => ?_)
  refine mg_putF C inG_X5 fX5_38 (ci := 5) rfl rfl tyX5 tyX5_ok nmX5 rfl hin rfl 6 rfl rfl rfl rfl dX5_init_73 (ws' := ((q71, .inl (E.2.2.1, 8, .inl (fun _ => 0))) :: (q63, .inl (E.2.2.1, 96, .inl (fun _ => 0))) :: (q49, .inl (E.2.2.1, 8, .inl (fun _ => 0))) :: (q41, .inl (E.2.2.1, 192, .inl (fun _ => 0))) :: (q32, .inl (E.2.2.1, 192, .inl (fun _ => 0))) :: (q23, .inl (E.2.2.1, 192, .inl (fun _ => 0))) :: (h, .inr (5, [.int 1, .int 1, .int 1, .ref q23, .ref q32, .ref q41, .ref q49, .int 16, .int 0, .int 0, .int 0, .int 0, .int 0, .ref q63, .ref q71, .null, .null, .null, .null, .null, .null, .null, .null, .null, .null, .int 0, .int 0, .null, .int 0])) :: tl)) rfl ?_
  refine mg_aload_n C dX5_init_76 rfl ?_
  refine mg_bipush (v := 8) C dX5_init_77 (by decide) ?_
  refine mg_newi C aI_ok (N := 8) (by decide) (by decide) (by decide) (by decide) (by decide) dX5_init_79 (fun q79 => ?_)
  refine mg_putF C inG_X5 fX5_41 (ci := 5) rfl rfl tyX5 tyX5_ok nmX5 rfl hin rfl 7 rfl rfl rfl rfl dX5_init_81 (ws' := ((q79, .inl (E.2.2.1, 8, .inl (fun _ => 0))) :: (q71, .inl (E.2.2.1, 8, .inl (fun _ => 0))) :: (q63, .inl (E.2.2.1, 96, .inl (fun _ => 0))) :: (q49, .inl (E.2.2.1, 8, .inl (fun _ => 0))) :: (q41, .inl (E.2.2.1, 192, .inl (fun _ => 0))) :: (q32, .inl (E.2.2.1, 192, .inl (fun _ => 0))) :: (q23, .inl (E.2.2.1, 192, .inl (fun _ => 0))) :: (h, .inr (5, [.int 1, .int 1, .int 1, .ref q23, .ref q32, .ref q41, .ref q49, .int 16, .int 0, .int 0, .int 0, .int 0, .int 0, .ref q63, .ref q71, .ref q79, .null, .null, .null, .null, .null, .null, .null, .null, .null, .int 0, .int 0, .null, .int 0])) :: tl)) rfl ?_
  refine mg_aload_n C dX5_init_84 rfl ?_
  refine mg_bipush (v := 8) C dX5_init_85 (by decide) ?_
  refine mg_newi C aI_ok (N := 8) (by decide) (by decide) (by decide) (by decide) (by decide) dX5_init_87 (fun q87 => ?_)
  refine mg_putF C inG_X5 fX5_44 (ci := 5) rfl rfl tyX5 tyX5_ok nmX5 rfl hin rfl 8 rfl rfl rfl rfl dX5_init_89 (ws' := ((q87, .inl (E.2.2.1, 8, .inl (fun _ => 0))) :: (q79, .inl (E.2.2.1, 8, .inl (fun _ => 0))) :: (q71, .inl (E.2.2.1, 8, .inl (fun _ => 0))) :: (q63, .inl (E.2.2.1, 96, .inl (fun _ => 0))) :: (q49, .inl (E.2.2.1, 8, .inl (fun _ => 0))) :: (q41, .inl (E.2.2.1, 192, .inl (fun _ => 0))) :: (q32, .inl (E.2.2.1, 192, .inl (fun _ => 0))) :: (q23, .inl (E.2.2.1, 192, .inl (fun _ => 0))) :: (h, .inr (5, [.int 1, .int 1, .int 1, .ref q23, .ref q32, .ref q41, .ref q49, .int 16, .int 0, .int 0, .int 0, .int 0, .int 0, .ref q63, .ref q71, .ref q79, .ref q87, .null, .null, .null, .null, .null, .null, .null, .null, .int 0, .int 0, .null, .int 0])) :: tl)) rfl ?_
  refine mg_aload_n C dX5_init_92 rfl ?_
  refine mg_bipush (v := 64) C dX5_init_93 (by decide) ?_
  refine mg_newi C aI_ok (N := 64) (by decide) (by decide) (by decide) (by decide) (by decide) dX5_init_95 (fun q95 => ?_)
  refine mg_putF C inG_X5 fX5_47 (ci := 5) rfl rfl tyX5 tyX5_ok nmX5 rfl hin rfl 9 rfl rfl rfl rfl dX5_init_97 (ws' := ((q95, .inl (E.2.2.1, 64, .inl (fun _ => 0))) :: (q87, .inl (E.2.2.1, 8, .inl (fun _ => 0))) :: (q79, .inl (E.2.2.1, 8, .inl (fun _ => 0))) :: (q71, .inl (E.2.2.1, 8, .inl (fun _ => 0))) :: (q63, .inl (E.2.2.1, 96, .inl (fun _ => 0))) :: (q49, .inl (E.2.2.1, 8, .inl (fun _ => 0))) :: (q41, .inl (E.2.2.1, 192, .inl (fun _ => 0))) :: (q32, .inl (E.2.2.1, 192, .inl (fun _ => 0))) :: (q23, .inl (E.2.2.1, 192, .inl (fun _ => 0))) :: (h, .inr (5, [.int 1, .int 1, .int 1, .ref q23, .ref q32, .ref q41, .ref q49, .int 16, .int 0, .int 0, .int 0, .int 0, .int 0, .ref q63, .ref q71, .ref q79, .ref q87, .ref q95, .null, .null, .null, .null, .null, .null, .null, .int 0, .int 0, .null, .int 0])) :: tl)) rfl ?_
  refine mg_aload_n C dX5_init_100 rfl ?_
  refine mg_bipush (v := 8) C dX5_init_101 (by decide) ?_
  refine mg_newi C aI_ok (N := 8) (by decide) (by decide) (by decide) (by decide) (by decide) dX5_init_103 (fun q103 => ?_)
  refine mg_putF C inG_X5 fX5_50 (ci := 5) rfl rfl tyX5 tyX5_ok nmX5 rfl hin rfl 10 rfl rfl rfl rfl dX5_init_105 (ws' := ((q103, .inl (E.2.2.1, 8, .inl (fun _ => 0))) :: (q95, .inl (E.2.2.1, 64, .inl (fun _ => 0))) :: (q87, .inl (E.2.2.1, 8, .inl (fun _ => 0))) :: (q79, .inl (E.2.2.1, 8, .inl (fun _ => 0))) :: (q71, .inl (E.2.2.1, 8, .inl (fun _ => 0))) :: (q63, .inl (E.2.2.1, 96, .inl (fun _ => 0))) :: (q49, .inl (E.2.2.1, 8, .inl (fun _ => 0))) :: (q41, .inl (E.2.2.1, 192, .inl (fun _ => 0))) :: (q32, .inl (E.2.2.1, 192, .inl (fun _ => 0))) :: (q23, .inl (E.2.2.1, 192, .inl (fun _ => 0))) :: (h, .inr (5, [.int 1, .int 1, .int 1, .ref q23, .ref q32, .ref q41, .ref q49, .int 16, .int 0, .int 0, .int 0, .int 0, .int 0, .ref q63, .ref q71, .ref q79, .ref q87, .ref q95, .ref q103, .null, .null, .null, .null, .null, .null, .int 0, .int 0, .null, .int 0])) :: tl)) rfl ?_
  refine mg_aload_n C dX5_init_108 rfl ?_
  refine mg_bipush (v := 8) C dX5_init_109 (by decide) ?_
  refine mg_newi C aI_ok (N := 8) (by decide) (by decide) (by decide) (by decide) (by decide) dX5_init_111 (fun q111 => ?_)
  refine mg_putF C inG_X5 fX5_53 (ci := 5) rfl rfl tyX5 tyX5_ok nmX5 rfl hin rfl 11 rfl rfl rfl rfl dX5_init_113 (ws' := ((q111, .inl (E.2.2.1, 8, .inl (fun _ => 0))) :: (q103, .inl (E.2.2.1, 8, .inl (fun _ => 0))) :: (q95, .inl (E.2.2.1, 64, .inl (fun _ => 0))) :: (q87, .inl (E.2.2.1, 8, .inl (fun _ => 0))) :: (q79, .inl (E.2.2.1, 8, .inl (fun _ => 0))) :: (q71, .inl (E.2.2.1, 8, .inl (fun _ => 0))) :: (q63, .inl (E.2.2.1, 96, .inl (fun _ => 0))) :: (q49, .inl (E.2.2.1, 8, .inl (fun _ => 0))) :: (q41, .inl (E.2.2.1, 192, .inl (fun _ => 0))) :: (q32, .inl (E.2.2.1, 192, .inl (fun _ => 0))) :: (q23, .inl (E.2.2.1, 192, .inl (fun _ => 0))) :: (h, .inr (5, [.int 1, .int 1, .int 1, .ref q23, .ref q32, .ref q41, .ref q49, .int 16, .int 0, .int 0, .int 0, .int 0, .int 0, .ref q63, .ref q71, .ref q79, .ref q87, .ref q95, .ref q103, .ref q111, .null, .null, .null, .null, .null, .int 0, .int 0, .null, .int 0])) :: tl)) rfl ?_
  refine mg_aload_n C dX5_init_116 rfl ?_
  refine mg_bipush (v := 9) C dX5_init_117 (by decide) ?_
  refine mg_newi C aI_ok (N := 9) (by decide) (by decide) (by decide) (by decide) (by decide) dX5_init_119 (fun q119 => ?_)
  refine mg_putF C inG_X5 fX5_56 (ci := 5) rfl rfl tyX5 tyX5_ok nmX5 rfl hin rfl 12 rfl rfl rfl rfl dX5_init_121 (ws' := ((q119, .inl (E.2.2.1, 9, .inl (fun _ => 0))) :: (q111, .inl (E.2.2.1, 8, .inl (fun _ => 0))) :: (q103, .inl (E.2.2.1, 8, .inl (fun _ => 0))) :: (q95, .inl (E.2.2.1, 64, .inl (fun _ => 0))) :: (q87, .inl (E.2.2.1, 8, .inl (fun _ => 0))) :: (q79, .inl (E.2.2.1, 8, .inl (fun _ => 0))) :: (q71, .inl (E.2.2.1, 8, .inl (fun _ => 0))) :: (q63, .inl (E.2.2.1, 96, .inl (fun _ => 0))) :: (q49, .inl (E.2.2.1, 8, .inl (fun _ => 0))) :: (q41, .inl (E.2.2.1, 192, .inl (fun _ => 0))) :: (q32, .inl (E.2.2.1, 192, .inl (fun _ => 0))) :: (q23, .inl (E.2.2.1, 192, .inl (fun _ => 0))) :: (h, .inr (5, [.int 1, .int 1, .int 1, .ref q23, .ref q32, .ref q41, .ref q49, .int 16, .int 0, .int 0, .int 0, .int 0, .int 0, .ref q63, .ref q71, .ref q79, .ref q87, .ref q95, .ref q103, .ref q111, .ref q119, .null, .null, .null, .null, .int 0, .int 0, .null, .int 0])) :: tl)) rfl ?_
  refine mg_aload_n C dX5_init_124 rfl ?_
  refine mg_sipush (v := 8000) C dX5_init_125 (by decide) ?_
  refine mg_newl C aJ_ok (N := 8000) (by decide) (by decide) (by decide) (by decide) (by decide) dX5_init_128 (fun q128 => ?_)
  refine mg_putF C inG_X5 fX5_59 (ci := 5) rfl rfl tyX5 tyX5_ok nmX5 rfl hin rfl 13 rfl rfl rfl rfl dX5_init_130 (ws' := ((q128, .inl (E.2.2.2, 8000, .inr (.inl (fun _ => 0)))) :: (q119, .inl (E.2.2.1, 9, .inl (fun _ => 0))) :: (q111, .inl (E.2.2.1, 8, .inl (fun _ => 0))) :: (q103, .inl (E.2.2.1, 8, .inl (fun _ => 0))) :: (q95, .inl (E.2.2.1, 64, .inl (fun _ => 0))) :: (q87, .inl (E.2.2.1, 8, .inl (fun _ => 0))) :: (q79, .inl (E.2.2.1, 8, .inl (fun _ => 0))) :: (q71, .inl (E.2.2.1, 8, .inl (fun _ => 0))) :: (q63, .inl (E.2.2.1, 96, .inl (fun _ => 0))) :: (q49, .inl (E.2.2.1, 8, .inl (fun _ => 0))) :: (q41, .inl (E.2.2.1, 192, .inl (fun _ => 0))) :: (q32, .inl (E.2.2.1, 192, .inl (fun _ => 0))) :: (q23, .inl (E.2.2.1, 192, .inl (fun _ => 0))) :: (h, .inr (5, [.int 1, .int 1, .int 1, .ref q23, .ref q32, .ref q41, .ref q49, .int 16, .int 0, .int 0, .int 0, .int 0, .int 0, .ref q63, .ref q71, .ref q79, .ref q87, .ref q95, .ref q103, .ref q111, .ref q119, .ref q128, .null, .null, .null, .int 0, .int 0, .null, .int 0])) :: tl)) rfl ?_
  refine mg_aload_n C dX5_init_133 rfl ?_
  refine mg_sipush (v := 8000) C dX5_init_134 (by decide) ?_
  refine mg_newi C aI_ok (N := 8000) (by decide) (by decide) (by decide) (by decide) (by decide) dX5_init_137 (fun q137 => ?_)
  refine mg_putF C inG_X5 fX5_63 (ci := 5) rfl rfl tyX5 tyX5_ok nmX5 rfl hin rfl 14 rfl rfl rfl rfl dX5_init_139 (ws' := ((q137, .inl (E.2.2.1, 8000, .inl (fun _ => 0))) :: (q128, .inl (E.2.2.2, 8000, .inr (.inl (fun _ => 0)))) :: (q119, .inl (E.2.2.1, 9, .inl (fun _ => 0))) :: (q111, .inl (E.2.2.1, 8, .inl (fun _ => 0))) :: (q103, .inl (E.2.2.1, 8, .inl (fun _ => 0))) :: (q95, .inl (E.2.2.1, 64, .inl (fun _ => 0))) :: (q87, .inl (E.2.2.1, 8, .inl (fun _ => 0))) :: (q79, .inl (E.2.2.1, 8, .inl (fun _ => 0))) :: (q71, .inl (E.2.2.1, 8, .inl (fun _ => 0))) :: (q63, .inl (E.2.2.1, 96, .inl (fun _ => 0))) :: (q49, .inl (E.2.2.1, 8, .inl (fun _ => 0))) :: (q41, .inl (E.2.2.1, 192, .inl (fun _ => 0))) :: (q32, .inl (E.2.2.1, 192, .inl (fun _ => 0))) :: (q23, .inl (E.2.2.1, 192, .inl (fun _ => 0))) :: (h, .inr (5, [.int 1, .int 1, .int 1, .ref q23, .ref q32, .ref q41, .ref q49, .int 16, .int 0, .int 0, .int 0, .int 0, .int 0, .ref q63, .ref q71, .ref q79, .ref q87, .ref q95, .ref q103, .ref q111, .ref q119, .ref q128, .ref q137, .null, .null, .int 0, .int 0, .null, .int 0])) :: tl)) rfl ?_
  refine mg_aload_n C dX5_init_142 rfl ?_
  refine mg_sipush (v := 8000) C dX5_init_143 (by decide) ?_
  refine mg_newi C aI_ok (N := 8000) (by decide) (by decide) (by decide) (by decide) (by decide) dX5_init_146 (fun q146 => ?_)
  refine mg_putF C inG_X5 fX5_66 (ci := 5) rfl rfl tyX5 tyX5_ok nmX5 rfl hin rfl 15 rfl rfl rfl rfl dX5_init_148 (ws' := ((q146, .inl (E.2.2.1, 8000, .inl (fun _ => 0))) :: (q137, .inl (E.2.2.1, 8000, .inl (fun _ => 0))) :: (q128, .inl (E.2.2.2, 8000, .inr (.inl (fun _ => 0)))) :: (q119, .inl (E.2.2.1, 9, .inl (fun _ => 0))) :: (q111, .inl (E.2.2.1, 8, .inl (fun _ => 0))) :: (q103, .inl (E.2.2.1, 8, .inl (fun _ => 0))) :: (q95, .inl (E.2.2.1, 64, .inl (fun _ => 0))) :: (q87, .inl (E.2.2.1, 8, .inl (fun _ => 0))) :: (q79, .inl (E.2.2.1, 8, .inl (fun _ => 0))) :: (q71, .inl (E.2.2.1, 8, .inl (fun _ => 0))) :: (q63, .inl (E.2.2.1, 96, .inl (fun _ => 0))) :: (q49, .inl (E.2.2.1, 8, .inl (fun _ => 0))) :: (q41, .inl (E.2.2.1, 192, .inl (fun _ => 0))) :: (q32, .inl (E.2.2.1, 192, .inl (fun _ => 0))) :: (q23, .inl (E.2.2.1, 192, .inl (fun _ => 0))) :: (h, .inr (5, [.int 1, .int 1, .int 1, .ref q23, .ref q32, .ref q41, .ref q49, .int 16, .int 0, .int 0, .int 0, .int 0, .int 0, .ref q63, .ref q71, .ref q79, .ref q87, .ref q95, .ref q103, .ref q111, .ref q119, .ref q128, .ref q137, .ref q146, .null, .int 0, .int 0, .null, .int 0])) :: tl)) rfl ?_
  refine mg_aload_n C dX5_init_151 rfl ?_
  refine mg_sipush (v := 16384) C dX5_init_152 (by decide) ?_
  refine mg_newi C aI_ok (N := 16384) (by decide) (by decide) (by decide) (by decide) (by decide) dX5_init_155 (fun q155 => ?_)
  refine mg_putF C inG_X5 fX5_69 (ci := 5) rfl rfl tyX5 tyX5_ok nmX5 rfl hin rfl 16 rfl rfl rfl rfl dX5_init_157 (ws' := ((q155, .inl (E.2.2.1, 16384, .inl (fun _ => 0))) :: (q146, .inl (E.2.2.1, 8000, .inl (fun _ => 0))) :: (q137, .inl (E.2.2.1, 8000, .inl (fun _ => 0))) :: (q128, .inl (E.2.2.2, 8000, .inr (.inl (fun _ => 0)))) :: (q119, .inl (E.2.2.1, 9, .inl (fun _ => 0))) :: (q111, .inl (E.2.2.1, 8, .inl (fun _ => 0))) :: (q103, .inl (E.2.2.1, 8, .inl (fun _ => 0))) :: (q95, .inl (E.2.2.1, 64, .inl (fun _ => 0))) :: (q87, .inl (E.2.2.1, 8, .inl (fun _ => 0))) :: (q79, .inl (E.2.2.1, 8, .inl (fun _ => 0))) :: (q71, .inl (E.2.2.1, 8, .inl (fun _ => 0))) :: (q63, .inl (E.2.2.1, 96, .inl (fun _ => 0))) :: (q49, .inl (E.2.2.1, 8, .inl (fun _ => 0))) :: (q41, .inl (E.2.2.1, 192, .inl (fun _ => 0))) :: (q32, .inl (E.2.2.1, 192, .inl (fun _ => 0))) :: (q23, .inl (E.2.2.1, 192, .inl (fun _ => 0))) :: (h, .inr (5, [.int 1, .int 1, .int 1, .ref q23, .ref q32, .ref q41, .ref q49, .int 16, .int 0, .int 0, .int 0, .int 0, .int 0, .ref q63, .ref q71, .ref q79, .ref q87, .ref q95, .ref q103, .ref q111, .ref q119, .ref q128, .ref q137, .ref q146, .ref q155, .int 0, .int 0, .null, .int 0])) :: tl)) rfl ?_
  refine mg_aload_n C dX5_init_160 rfl ?_
  refine mg_sipush (v := 8000) C dX5_init_161 (by decide) ?_
  refine mg_newi C aI_ok (N := 8000) (by decide) (by decide) (by decide) (by decide) (by decide) dX5_init_164 (fun q164 => ?_)
  refine mg_putF C inG_X5 fX5_72 (ci := 5) rfl rfl tyX5 tyX5_ok nmX5 rfl hin rfl 17 rfl rfl rfl rfl dX5_init_166 (ws' := ((q164, .inl (E.2.2.1, 8000, .inl (fun _ => 0))) :: (q155, .inl (E.2.2.1, 16384, .inl (fun _ => 0))) :: (q146, .inl (E.2.2.1, 8000, .inl (fun _ => 0))) :: (q137, .inl (E.2.2.1, 8000, .inl (fun _ => 0))) :: (q128, .inl (E.2.2.2, 8000, .inr (.inl (fun _ => 0)))) :: (q119, .inl (E.2.2.1, 9, .inl (fun _ => 0))) :: (q111, .inl (E.2.2.1, 8, .inl (fun _ => 0))) :: (q103, .inl (E.2.2.1, 8, .inl (fun _ => 0))) :: (q95, .inl (E.2.2.1, 64, .inl (fun _ => 0))) :: (q87, .inl (E.2.2.1, 8, .inl (fun _ => 0))) :: (q79, .inl (E.2.2.1, 8, .inl (fun _ => 0))) :: (q71, .inl (E.2.2.1, 8, .inl (fun _ => 0))) :: (q63, .inl (E.2.2.1, 96, .inl (fun _ => 0))) :: (q49, .inl (E.2.2.1, 8, .inl (fun _ => 0))) :: (q41, .inl (E.2.2.1, 192, .inl (fun _ => 0))) :: (q32, .inl (E.2.2.1, 192, .inl (fun _ => 0))) :: (q23, .inl (E.2.2.1, 192, .inl (fun _ => 0))) :: (h, .inr (5, [.int 1, .int 1, .int 1, .ref q23, .ref q32, .ref q41, .ref q49, .int 16, .int 0, .int 0, .int 0, .int 0, .int 0, .ref q63, .ref q71, .ref q79, .ref q87, .ref q95, .ref q103, .ref q111, .ref q119, .ref q128, .ref q137, .ref q146, .ref q155, .int 0, .int 0, .ref q164, .int 0])) :: tl)) rfl ?_
  refine mg_aload_n C dX5_init_169 rfl ?_
  refine mg_iconst (v := (-1)) C dX5_init_170 (by decide) ?_
  refine mg_put C inG_X5 fX5_75 (ci := 5) rfl rfl tyX5 tyX5_ok nmX5 rfl 17 rfl rfl rfl rfl dX5_init_171 (ws' := ((q164, .inl (E.2.2.1, 8000, .inl (fun _ => 0))) :: (q155, .inl (E.2.2.1, 16384, .inl (fun _ => 0))) :: (q146, .inl (E.2.2.1, 8000, .inl (fun _ => 0))) :: (q137, .inl (E.2.2.1, 8000, .inl (fun _ => 0))) :: (q128, .inl (E.2.2.2, 8000, .inr (.inl (fun _ => 0)))) :: (q119, .inl (E.2.2.1, 9, .inl (fun _ => 0))) :: (q111, .inl (E.2.2.1, 8, .inl (fun _ => 0))) :: (q103, .inl (E.2.2.1, 8, .inl (fun _ => 0))) :: (q95, .inl (E.2.2.1, 64, .inl (fun _ => 0))) :: (q87, .inl (E.2.2.1, 8, .inl (fun _ => 0))) :: (q79, .inl (E.2.2.1, 8, .inl (fun _ => 0))) :: (q71, .inl (E.2.2.1, 8, .inl (fun _ => 0))) :: (q63, .inl (E.2.2.1, 96, .inl (fun _ => 0))) :: (q49, .inl (E.2.2.1, 8, .inl (fun _ => 0))) :: (q41, .inl (E.2.2.1, 192, .inl (fun _ => 0))) :: (q32, .inl (E.2.2.1, 192, .inl (fun _ => 0))) :: (q23, .inl (E.2.2.1, 192, .inl (fun _ => 0))) :: (h, .inr (5, [.int 1, .int 1, .int 1, .ref q23, .ref q32, .ref q41, .ref q49, .int 16, .int 0, .int 0, .int 0, .int 0, .int 0, .ref q63, .ref q71, .ref q79, .ref q87, .ref q95, .ref q103, .ref q111, .ref q119, .ref q128, .ref q137, .ref q146, .ref q155, .int 0, .int 0, .ref q164, .int (-1)])) :: tl)) rfl ?_
  refine mg_aload_n C dX5_init_174 rfl ?_
  refine mg_iconst (v := 1) C dX5_init_175 (by decide) ?_
  refine mg_iconst (v := 1) C dX5_init_176 (by decide) ?_
  refine mg_iconst (v := 1) C dX5_init_177 (by decide) ?_
  refine mg_ws (ws' := mw E (adL [q164, q155, q146, q137, q128, q119, q111, q103, q95, q87, q79, q71, q63, q49, q41, q32, q23, h]) (fun i => bif Nat.beq i 16 then -1 else bif Nat.beq i 3 then 16 else bif Nat.blt i 3 then 1 else 0) (fun _ _ => 0) (fun _ => 0) tl) rfl ?_
  refine mg_callV C (ct_X5_begins E _ _ _ _ _ _ _ _) oX5_78 17 rfl rfl rfl rfl rfl dX5_init_178 (fun o178 w178 z178 => ?_)
  obtain ⟨rfl, rfl⟩ := z178
  refine mg_v0 ?_
  exact mg_vret C hQ dX5_init_181 (⟨rfl, [q164, q155, q146, q137, q128, q119, q111, q103, q95, q87, q79, q71, q63, q49, q41, q32, q23, h], rfl, rfl⟩)
