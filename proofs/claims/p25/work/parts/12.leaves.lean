section MG2
variable {E : En} {X : Fx} {ws ws' : va_W} {k n pc : Nat} {lv lv' : List (Nat × Value)} {st rest : List Value}
theorem mg_ws (h : ws = ws') (kk : GG E X ws' k n pc lv st) : GG E X ws k n pc lv st := h ▸ kk
theorem mg_lve (h : lv = lv') (kk : GG E X ws k n pc lv' st) : GG E X ws k n pc lv st := h ▸ kk
theorem mg_tos {u w : Value} (h : u = w) (kk : GG E X ws k n pc lv (w :: rest)) : GG E X ws k n pc lv (u :: rest) := h ▸ kk
theorem cell_eq (cA : ClassId) {N : Nat} {f f' : Nat → Int32} (h : ∀ j, j < N → f j = f' j) : vp_cell cA (N, .inl f) = vp_cell cA (N, .inl f') := by
  have e : (Array.ofFn (n := N) fun j : Fin N => Value.int (f j.val)) = Array.ofFn (n := N) fun j : Fin N => Value.int (f' j.val) := by
    congr 1
    funext j
    rw [h j.val j.isLt]
  exact congrArg (fun z => ({ cls := cA, slots := z, vm := .none } : Cell)) e
/-- an array's contents count within its length alone -/
theorem mg_arr (q0 : Nat) {a N : Nat} {cA : ClassId} {f f' : Nat → Int32} (ha : ws[q0]? = some (a, .inl (cA, N, .inl f))) (hf : ∀ j, j < N → f j = f' j) (hw : ws.set q0 (a, .inl (cA, N, .inl f')) = ws') (kk : GG E X ws' k n pc lv st) : GG E X ws k n pc lv st := by
  obtain ⟨p, e, R, s, m, args, below, meth, c, A, Q⟩ := X
  intro H locs ls hP hD hS hl
  subst hw
  have hat : va_at E.2.1 vwCl (a, .inl (cA, N, .inl f)) H := hP q0 _ ha
  have hat2 : va_at E.2.1 vwCl (a, .inl (cA, N, .inl f')) H := by
    show H[a]? = some (vp_cell cA (N, .inl f'))
    rw [← cell_eq cA hf]
    exact hat
  exact kk H locs ls (hP.set hD ha hat2 (fun _ _ => rfl)) (hD.set ha) hS hl
/-- two parts of a world change places -/
theorem mg_swap {w1 w2 : va_W} (kk : GG E X (w2 ++ w1) k n pc lv st) : GG E X (w1 ++ w2) k n pc lv st := by
  obtain ⟨p, e, R, s, m, args, below, meth, c, A, Q⟩ := X
  intro H locs ls hP hD hS hl
  have h1 : va_P E.2.1 vwCl (([] ++ w1) ++ w2) H := hP
  have h2 : va_D A (([] ++ w1) ++ w2) := hD
  exact kk H locs ls h1.swap h2.swap hS hl
end MG2
theorem mg_mmin {E : En} {X : Fx} {cc : ByteArray} {nL : Nat} {own : String} {ret : Option FieldType} {fr lo rc rs : Nat} {ws : va_W} {k n pc : Nat} {lv : List (Nat × Value)} {rest : List Value} {idx : Nat} (C : Cx E X cc nL own ret fr lo rc rs) {x y : Int32} (hdg : decode cc pc = .ok (.invokestatic idx, 3))
    (hw : Cond.methodLink own idx Lib.Math.min.name ∈ gtbl ∧ Cond.static Lib.Math.min.name ∈ gtbl ∧ Cond.initialized "java/lang/Math" ∈ gtbl ∧ Cond.code Lib.Math.min.name Lib.Math.min.code 2 (some .int) ∈ gtbl)
    (hrm : (Nat.ble 1 fr && Nat.ble ((rest.map fun v => v.category).sum + 13) lo && Nat.ble k rc && Nat.ble n rs) = true) (kk : GG E X ws k n (pc + 3) lv (.int (if y < x then y else x) :: rest)) : GG E X ws k n pc lv (.int y :: .int x :: rest) := by
  obtain ⟨p, e, R, s, m, args, below, meth, c, A, Q⟩ := X
  obtain ⟨hx, hb, hml, hown, hts, hlk, hrt, hK, hnw, hA, hR⟩ := C
  intro H locs ls hP hD hS hl
  simp only [Bool.and_eq_true] at hrm
  exact va_mmin hx hb hl.1.symm hown (hts _ hw.1) (hts _ hw.2.1) (hts _ hw.2.2.1) (hts _ hw.2.2.2) (by rw [hR]; exact Nat.le_of_ble_eq_true hrm.1.1.1) (by rw [hR]; exact Nat.le_of_ble_eq_true hrm.1.1.2) (by rw [hR]; exact Nat.le_of_ble_eq_true hrm.1.2) (by rw [hR]; exact Nat.le_of_ble_eq_true hrm.2) hdg (kk H locs ls hP hD hS hl)
theorem mg_mabs {E : En} {X : Fx} {cc : ByteArray} {nL : Nat} {own : String} {ret : Option FieldType} {fr lo rc rs : Nat} {ws : va_W} {k n pc : Nat} {lv : List (Nat × Value)} {rest : List Value} {idx : Nat} (C : Cx E X cc nL own ret fr lo rc rs) {x : Int32} (hdg : decode cc pc = .ok (.invokestatic idx, 3))
    (hw : Cond.methodLink own idx Lib.Math.abs.name ∈ gtbl ∧ Cond.static Lib.Math.abs.name ∈ gtbl ∧ Cond.initialized "java/lang/Math" ∈ gtbl ∧ Cond.code Lib.Math.abs.name Lib.Math.abs.code 1 (some .int) ∈ gtbl)
    (hrm : (Nat.ble 1 fr && Nat.ble ((rest.map fun v => v.category).sum + 13) lo && Nat.ble k rc && Nat.ble n rs) = true) (kk : GG E X ws k n (pc + 3) lv (.int (if 0 ≤ x then x else 0 - x) :: rest)) : GG E X ws k n pc lv (.int x :: rest) := by
  obtain ⟨p, e, R, s, m, args, below, meth, c, A, Q⟩ := X
  obtain ⟨hx, hb, hml, hown, hts, hlk, hrt, hK, hnw, hA, hR⟩ := C
  intro H locs ls hP hD hS hl
  simp only [Bool.and_eq_true] at hrm
  exact va_mabs hx hb hl.1.symm hown (hts _ hw.1) (hts _ hw.2.1) (hts _ hw.2.2.1) (hts _ hw.2.2.2) (by rw [hR]; exact Nat.le_of_ble_eq_true hrm.1.1.1) (by rw [hR]; exact Nat.le_of_ble_eq_true hrm.1.1.2) (by rw [hR]; exact Nat.le_of_ble_eq_true hrm.1.2) (by rw [hR]; exact Nat.le_of_ble_eq_true hrm.2) hdg (kk H locs ls hP hD hS hl)

def wi (x p q : Int32) : Int32 := if x < p then 0 else if q < x then 0 else 1
def mn (x y : Int32) : Int32 := if y < x then y else x
def gF : Nat → Int32 := fun i => bif Nat.beq i 16 then -1 else bif Nat.beq i 3 then 16 else bif Nat.blt i 3 then 1 else 0
def aF : Nat → Nat → Int32 := fun i _ => bif Nat.beq i 1 then -1 else 0
def vF : Nat → Int64 := fun _ => 0
def gw (E : En) (ad : Nat → Nat) (g : Nat → Int32) (a : Nat → Nat → Int32) (tl : va_W) : va_W :=
  (ad 14, .inl (E.2.2.1, 8, .inl (a 3))) ::
  (ad 15, .inl (E.2.2.1, 192, .inl (a 2))) ::
  (ad 16, .inl (E.2.2.1, 192, .inl (a 1))) ::
  (ad 17, .inl (E.2.2.1, 192, .inl (a 0))) ::
  (ad 18, .inr (1, [.int (g 0), .int (g 1), .int (g 2), .int (g 3), .ref (ad 17), .ref (ad 16), .ref (ad 15), .ref (ad 14)])) ::
  tl
theorem zx {E : En} {ad : Nat → Nat} {fl : Nat} {g : Nat → Int32} {a : Nat → Nat → Int32} {v : Nat → Int64} {tl : va_W} : ∃ L : va_W, cw E ad fl g a v tl = L ++ tl := ⟨cw E ad fl g a v [], rfl⟩
set_option maxHeartbeats 400000 in
set_option maxRecDepth 100000 in
theorem ct_X4_within (E : En) (ws : va_W) (x p q : Int32)  : Ct E mX4_within 0 0 0 [.int x, .int p, .int q] ws (fun o w => o = some (.int (wi x p q)) ∧ w = ws) := by
  refine Ct.of (by decide) (Nat.le_of_ble_eq_true rfl) (fun X C hQ hin => ?_)
  have C : Cx E X cX4_within 3 RX4 (some .boolean) 0 0 0 0 := C
  refine mg_iload_n C dX4_within_0 rfl ?_
  refine mg_iload_n C dX4_within_1 rfl ?_
  refine mg_icmp_lt C 14 dX4_within_2 (by decide) (fun h2 => ?_) (fun h2 => ?_)
  · refine mg_iconst (v := 0) C dX4_within_14 (by decide) ?_
    exact mg_zret C hQ (rfl) dX4_within_15 (⟨by rw [wi, if_pos h2] <;> first | rfl | decide, rfl⟩)
  · refine mg_iload_n C dX4_within_5 rfl ?_
    refine mg_iload_n C dX4_within_6 rfl ?_
    refine mg_icmp_gt C 14 dX4_within_7 (by decide) (fun h7 => ?_) (fun h7 => ?_)
    · refine mg_iconst (v := 0) C dX4_within_14 (by decide) ?_
      exact mg_zret C hQ (rfl) dX4_within_15 (⟨by rw [wi, if_neg h2, if_pos h7] <;> first | rfl | decide, rfl⟩)
    · refine mg_iconst (v := 1) C dX4_within_10 (by decide) ?_
      refine mg_goto C 15 dX4_within_11 (by decide) ?_
      exact mg_zret C hQ (rfl) dX4_within_15 (⟨by rw [wi, if_neg h2, if_neg h7] <;> first | rfl | decide, rfl⟩)
set_option maxHeartbeats 400000 in
set_option maxRecDepth 100000 in
theorem ct_X5_in (E : En) (ws : va_W) (x p q : Int32)  : Ct E mX5_in 0 0 0 [.int x, .int p, .int q] ws (fun o w => o = some (.int (wi x p q)) ∧ w = ws) := by
  refine Ct.of (by decide) (Nat.le_of_ble_eq_true rfl) (fun X C hQ hin => ?_)
  have C : Cx E X cX5_in 3 RX5 (some .boolean) 0 0 0 0 := C
  refine mg_iload_n C dX5_in_0 rfl ?_
  refine mg_iload_n C dX5_in_1 rfl ?_
  refine mg_icmp_lt C 14 dX5_in_2 (by decide) (fun h2 => ?_) (fun h2 => ?_)
  · refine mg_iconst (v := 0) C dX5_in_14 (by decide) ?_
    exact mg_zret C hQ (rfl) dX5_in_15 (⟨by rw [wi, if_pos h2] <;> first | rfl | decide, rfl⟩)
  · refine mg_iload_n C dX5_in_5 rfl ?_
    refine mg_iload_n C dX5_in_6 rfl ?_
    refine mg_icmp_gt C 14 dX5_in_7 (by decide) (fun h7 => ?_) (fun h7 => ?_)
    · refine mg_iconst (v := 0) C dX5_in_14 (by decide) ?_
      exact mg_zret C hQ (rfl) dX5_in_15 (⟨by rw [wi, if_neg h2, if_pos h7] <;> first | rfl | decide, rfl⟩)
    · refine mg_iconst (v := 1) C dX5_in_10 (by decide) ?_
      refine mg_goto C 15 dX5_in_11 (by decide) ?_
      exact mg_zret C hQ (rfl) dX5_in_15 (⟨by rw [wi, if_neg h2, if_neg h7] <;> first | rfl | decide, rfl⟩)
theorem oX1_59m : Cond.methodLink RX1 59 Lib.Math.min.name ∈ gtbl ∧ Cond.static Lib.Math.min.name ∈ gtbl ∧ Cond.initialized "java/lang/Math" ∈ gtbl ∧ Cond.code Lib.Math.min.name Lib.Math.min.code 2 (some .int) ∈ gtbl := ⟨gt_of ⟨List.mem_of_getElem? (i := 335) (by decide +kernel), by decide +kernel⟩, gt_of ⟨List.mem_of_getElem? (i := 336) (by decide +kernel), by decide +kernel⟩, gt_of ⟨List.mem_of_getElem? (i := 74) (by decide +kernel), by decide +kernel⟩, gt_of ⟨List.mem_of_getElem? (i := 337) (by decide +kernel), by decide +kernel⟩⟩
theorem oX3_70m : Cond.methodLink RX3 70 Lib.Math.abs.name ∈ gtbl ∧ Cond.static Lib.Math.abs.name ∈ gtbl ∧ Cond.initialized "java/lang/Math" ∈ gtbl ∧ Cond.code Lib.Math.abs.name Lib.Math.abs.code 1 (some .int) ∈ gtbl := ⟨gt_of ⟨List.mem_of_getElem? (i := 383) (by decide +kernel), by decide +kernel⟩, gt_of ⟨List.mem_of_getElem? (i := 384) (by decide +kernel), by decide +kernel⟩, gt_of ⟨List.mem_of_getElem? (i := 74) (by decide +kernel), by decide +kernel⟩, gt_of ⟨List.mem_of_getElem? (i := 385) (by decide +kernel), by decide +kernel⟩⟩
theorem oX3_138m : Cond.methodLink RX3 138 Lib.Math.min.name ∈ gtbl ∧ Cond.static Lib.Math.min.name ∈ gtbl ∧ Cond.initialized "java/lang/Math" ∈ gtbl ∧ Cond.code Lib.Math.min.name Lib.Math.min.code 2 (some .int) ∈ gtbl := ⟨gt_of ⟨List.mem_of_getElem? (i := 455) (by decide +kernel), by decide +kernel⟩, gt_of ⟨List.mem_of_getElem? (i := 336) (by decide +kernel), by decide +kernel⟩, gt_of ⟨List.mem_of_getElem? (i := 74) (by decide +kernel), by decide +kernel⟩, gt_of ⟨List.mem_of_getElem? (i := 337) (by decide +kernel), by decide +kernel⟩⟩
set_option maxHeartbeats 400000 in
set_option maxRecDepth 100000 in
theorem ct_X4_fullTable (E : En) (ws : va_W) (k : Int32)  : Ct E mX4_fullTable 0 0 0 [.int k] ws (fun o w => o = some (.int ((1 : Int32) <<< ((1 : Int32) <<< (k &&& 31) &&& 31) - 1)) ∧ w = ws) := by
  refine Ct.of (by decide) (Nat.le_of_ble_eq_true rfl) (fun X C hQ hin => ?_)
  have C : Cx E X cX4_fullTable 1 RX4 (some .int) 0 0 0 0 := C
  refine mg_iconst (v := 1) C dX4_fullTable_0 (by decide) ?_
  refine mg_iconst (v := 1) C dX4_fullTable_1 (by decide) ?_
  refine mg_iload_n C dX4_fullTable_2 rfl ?_
  refine mg_ishl C dX4_fullTable_3 ?_
  refine mg_ishl C dX4_fullTable_4 ?_
  refine mg_iconst (v := 1) C dX4_fullTable_5 (by decide) ?_
  refine mg_isub C dX4_fullTable_6 ?_
  exact mg_iret C hQ dX4_fullTable_7 (⟨rfl, rfl⟩)
set_option maxHeartbeats 400000 in
set_option maxRecDepth 100000 in
theorem ct_X4_packAct (E : En) (ws : va_W) (i j c : Int32)  : Ct E mX4_packAct 0 0 0 [.int i, .int j, .int c] ws (fun o w => o = some (.int (i <<< ((6 : Int32) &&& 31) ||| j <<< ((3 : Int32) &&& 31) ||| c)) ∧ w = ws) := by
  refine Ct.of (by decide) (Nat.le_of_ble_eq_true rfl) (fun X C hQ hin => ?_)
  have C : Cx E X cX4_packAct 3 RX4 (some .int) 0 0 0 0 := C
  refine mg_iload_n C dX4_packAct_0 rfl ?_
  refine mg_bipush (v := 6) C dX4_packAct_1 (by decide) ?_
  refine mg_ishl C dX4_packAct_3 ?_
  refine mg_iload_n C dX4_packAct_4 rfl ?_
  refine mg_iconst (v := 3) C dX4_packAct_5 (by decide) ?_
  refine mg_ishl C dX4_packAct_6 ?_
  refine mg_ior C dX4_packAct_7 ?_
  refine mg_iload_n C dX4_packAct_8 rfl ?_
  refine mg_ior C dX4_packAct_9 ?_
  exact mg_iret C hQ dX4_packAct_10 (⟨rfl, rfl⟩)
set_option maxHeartbeats 400000 in
set_option maxRecDepth 100000 in
theorem ct_X4_actPart (E : En) (ws : va_W) (z u : Int32)  : Ct E mX4_actPart 0 0 0 [.int z, .int u] ws (fun o w => o = some (.int (z >>> ((6 - 3 * u : Int32) &&& 31) &&& 7)) ∧ w = ws) := by
  refine Ct.of (by decide) (Nat.le_of_ble_eq_true rfl) (fun X C hQ hin => ?_)
  have C : Cx E X cX4_actPart 2 RX4 (some .int) 0 0 0 0 := C
  refine mg_iload_n C dX4_actPart_0 rfl ?_
  refine mg_bipush (v := 6) C dX4_actPart_1 (by decide) ?_
  refine mg_iconst (v := 3) C dX4_actPart_3 (by decide) ?_
  refine mg_iload_n C dX4_actPart_4 rfl ?_
  refine mg_imul C dX4_actPart_5 ?_
  refine mg_isub C dX4_actPart_6 ?_
  refine mg_ishr C dX4_actPart_7 ?_
  refine mg_bipush (v := 7) C dX4_actPart_8 (by decide) ?_
  refine mg_iand C dX4_actPart_10 ?_
  exact mg_iret C hQ dX4_actPart_11 (⟨rfl, rfl⟩)
set_option maxHeartbeats 400000 in
set_option maxRecDepth 100000 in
theorem ct_X4_packVisit (E : En) (ws : va_W) (z f c : Int32)  : Ct E mX4_packVisit 0 0 0 [.int z, .int f, .int c] ws (fun o w => o = some (.long (f.toInt64 <<< ((32 : Int32).toInt64 &&& 63) ||| (c <<< ((16 : Int32) &&& 31)).toInt64 ||| z.toInt64)) ∧ w = ws) := by
  refine Ct.of (by decide) (Nat.le_of_ble_eq_true rfl) (fun X C hQ hin => ?_)
  have C : Cx E X cX4_packVisit 3 RX4 (some .long) 0 0 0 0 := C
  refine mg_iload_n C dX4_packVisit_0 rfl ?_
  refine mg_i2l C dX4_packVisit_1 ?_
  refine mg_bipush (v := 32) C dX4_packVisit_2 (by decide) ?_
  refine mg_lshl C dX4_packVisit_4 ?_
  refine mg_iload_n C dX4_packVisit_5 rfl ?_
  refine mg_bipush (v := 16) C dX4_packVisit_6 (by decide) ?_
  refine mg_ishl C dX4_packVisit_8 ?_
  refine mg_i2l C dX4_packVisit_9 ?_
  refine mg_lor C dX4_packVisit_10 ?_
  refine mg_iload_n C dX4_packVisit_11 rfl ?_
  refine mg_i2l C dX4_packVisit_12 ?_
  refine mg_lor C dX4_packVisit_13 ?_
  exact mg_lret C hQ dX4_packVisit_14 (⟨rfl, rfl⟩)
set_option maxHeartbeats 400000 in
set_option maxRecDepth 100000 in
theorem ct_X4_stateOf (E : En) (ws : va_W) (z : Int64)  : Ct E mX4_stateOf 0 0 0 [.long z] ws (fun o w => o = some (.int (z.toInt32 &&& 65535)) ∧ w = ws) := by
  refine Ct.of (by decide) (Nat.le_of_ble_eq_true rfl) (fun X C hQ hin => ?_)
  have C : Cx E X cX4_stateOf 2 RX4 (some .int) 0 0 0 0 := C
  refine mg_lload_n C dX4_stateOf_0 rfl ?_
  refine mg_l2i C dX4_stateOf_1 ?_
  refine mg_ldc C dX4_stateOf_2 kX4_201 ?_
  refine mg_iand C dX4_stateOf_4 ?_
  exact mg_iret C hQ dX4_stateOf_5 (⟨rfl, rfl⟩)
set_option maxHeartbeats 400000 in
set_option maxRecDepth 100000 in
theorem ct_X4_cameBy (E : En) (ws : va_W) (z : Int64)  : Ct E mX4_cameBy 0 0 0 [.long z] ws (fun o w => o = some (.int (z.toInt32 >>> ((16 : Int32) &&& 31))) ∧ w = ws) := by
  refine Ct.of (by decide) (Nat.le_of_ble_eq_true rfl) (fun X C hQ hin => ?_)
  have C : Cx E X cX4_cameBy 2 RX4 (some .int) 0 0 0 0 := C
  refine mg_lload_n C dX4_cameBy_0 rfl ?_
  refine mg_l2i C dX4_cameBy_1 ?_
  refine mg_bipush (v := 16) C dX4_cameBy_2 (by decide) ?_
  refine mg_ishr C dX4_cameBy_4 ?_
  exact mg_iret C hQ dX4_cameBy_5 (⟨rfl, rfl⟩)
set_option maxHeartbeats 400000 in
set_option maxRecDepth 100000 in
theorem ct_X4_cameFrom (E : En) (ws : va_W) (z : Int64)  : Ct E mX4_cameFrom 0 0 0 [.long z] ws (fun o w => o = some (.int ((z >>> ((32 : Int32).toInt64 &&& 63)).toInt32)) ∧ w = ws) := by
  refine Ct.of (by decide) (Nat.le_of_ble_eq_true rfl) (fun X C hQ hin => ?_)
  have C : Cx E X cX4_cameFrom 2 RX4 (some .int) 0 0 0 0 := C
  refine mg_lload_n C dX4_cameFrom_0 rfl ?_
  refine mg_bipush (v := 32) C dX4_cameFrom_1 (by decide) ?_
  refine mg_lshr C dX4_cameFrom_3 ?_
  refine mg_l2i C dX4_cameFrom_4 ?_
  exact mg_iret C hQ dX4_cameFrom_5 (⟨rfl, rfl⟩)
set_option maxHeartbeats 400000 in
set_option maxRecDepth 100000 in
theorem ct_J7_fill_53178 (E : En) (ws : va_W) (q0 h N : Nat) (f : Nat → Int32) (ha : ws[q0]? = some (h, .inl (E.2.2.1, N, .inl f))) (hN : Nat.ble N 100000 = true) (x : Int32) : Ct E mJ7_fill_53178 0 0 0 [.ref h, .int x] ws (fun o w => o = none ∧ w = ws.set q0 (h, .inl (E.2.2.1, N, .inl (fun _ => x)))) := by
  refine Ct.of (by decide) (Nat.le_of_ble_eq_true rfl) (fun X C hQ hin => ?_)
  have C : Cx E X cJ7_fill_53178 4 RJ7 none 0 0 0 0 := C
  have hN2 : N ≤ 100000 := Nat.le_of_ble_eq_true hN
  have loop : ∀ (m i : Nat) (f' : Nat → Int32) (ws' : va_W), i ≤ N → N ≤ i + m → ws'[q0]? = some (h, .inl (E.2.2.1, N, .inl f')) → ws'.set q0 (h, .inl (E.2.2.1, N, .inl (fun _ => x))) = ws.set q0 (h, .inl (E.2.2.1, N, .inl (fun _ => x))) → (∀ j, j < i → f' j = x) → GG E X ws' 0 0 5 [(0, .ref h), (1, .int x), (2, .int (nI i)), (3, .int (nI N))] [] := by
    intro m
    induction m with
    | zero =>
      intro i f' ws' hi hm hw hse hx
      have hiN : i = N := by omega
      subst hiN
      refine mg_iload_n C dJ7_fill_53178_5 rfl ?_
      refine mg_iload_n C dJ7_fill_53178_6 rfl ?_
      refine mg_icmp_ge C 20 dJ7_fill_53178_7 (by decide) (fun h7 => ?_) (fun h7 => absurd (nI_le (Nat.le_refl i) (by omega)) h7)
      refine mg_arr q0 hw (f' := fun _ => x) (fun j hj => hx j hj) rfl ?_
      exact mg_vret C hQ dJ7_fill_53178_20 ⟨rfl, hse⟩
    | succ m ih =>
      intro i f' ws' hi hm hw hse hx
      refine mg_iload_n C dJ7_fill_53178_5 rfl ?_
      refine mg_iload_n C dJ7_fill_53178_6 rfl ?_
      refine mg_icmp_ge C 20 dJ7_fill_53178_7 (by decide) (fun h7 => ?_) (fun h7 => ?_)
      · have hiN : i = N := by
          rcases Nat.lt_or_ge i N with q | q
          · exact absurd h7 (nI_ge q (by omega))
          · omega
        subst hiN
        refine mg_arr q0 hw (f' := fun _ => x) (fun j hj => hx j hj) rfl ?_
        exact mg_vret C hQ dJ7_fill_53178_20 ⟨rfl, hse⟩
      · have hiN : i < N := by
          rcases Nat.lt_or_ge i N with q | q
          · exact q
          · exact absurd (nI_le q (by omega)) h7
        have hlt : q0 < ws'.length := (List.getElem?_eq_some_iff.mp hw).1
        refine mg_aload_n C dJ7_fill_53178_10 rfl ?_
        refine mg_iload_n C dJ7_fill_53178_11 rfl ?_
        refine mg_iload_n C dJ7_fill_53178_12 rfl ?_
        refine mg_iast C q0 hw (vp_in_nI hiN (by omega)) dJ7_fill_53178_13 rfl ?_
        refine mg_iinc C dJ7_fill_53178_14 rfl rfl ?_
        refine mg_goto C 5 dJ7_fill_53178_17 (by decide) ?_
        refine mg_lve (lv' := [(0, .ref h), (1, .int x), (2, .int (nI (i + 1))), (3, .int (nI N))]) ?_ ?_
        · rw [nI_succ]; rfl
        · refine ih (i + 1) (upd f' (nI i).toNatClampNeg x) _ hiN (by omega) (by simp [hlt]) (by rw [List.set_set]; exact hse) (fun j hj => ?_)
          rw [nI_clamp (by omega)]
          by_cases hji : j = i
          · rw [hji]; exact pk_us
          · rw [pk_un hji]; exact hx j (by omega)
  show GG E X ws 0 0 0 [(0, .ref h), (1, .int x)] []
  refine mg_iconst (v := 0) C dJ7_fill_53178_0 (by decide) ?_
  refine mg_istore_n C dJ7_fill_53178_1 rfl ?_
  refine mg_aload_n C dJ7_fill_53178_2 rfl ?_
  refine mg_alen C q0 ha rfl dJ7_fill_53178_3 ?_
  refine mg_istore_n C dJ7_fill_53178_4 rfl ?_
  exact loop N 0 f ws (Nat.zero_le _) (by omega) ha rfl (fun j hj => absurd hj (Nat.not_lt_zero j))
def hc (g : Nat → Int32) (r c : Int32) : Int32 := if wi r 0 (g 0 - 1) = 0 then 0 else if wi c 0 (g 1 - 1) = 0 then 0 else 1
def sk (a : Nat → Nat → Int32) (z : Int32) : Int32 := if a 1 z.toNatClampNeg = -1 then 0 else 1
def sa (a : Nat → Nat → Int32) (z y : Int32) : Int32 := if sk a z = 0 then 0 else if a 1 z.toNatClampNeg = y then 0 else 1
def pu (a : Nat → Nat → Int32) (z y : Int32) : Nat → Nat → Int32 := if sk a z = 0 then ups (ups a 2 z.toNatClampNeg 0) 0 z.toNatClampNeg y else ups a 2 z.toNatClampNeg 0
def ho (a : Nat → Nat → Int32) (z y : Int32) : Nat → Nat → Int32 := if y = -1 then ups a 1 z.toNatClampNeg y else ups (ups a 1 z.toNatClampNeg y) 0 z.toNatClampNeg y
def tc (a : Nat → Nat → Int32) (z u : Int32) : Int32 := if u = 0 then a 0 z.toNatClampNeg else if u = 1 then a 1 z.toNatClampNeg else a 2 z.toNatClampNeg
def ex (g : Nat → Int32) : Int32 := if g 4 ≤ 0 then 0 else 1
set_option maxHeartbeats 400000 in
set_option maxRecDepth 100000 in
theorem ct_X1_hasCell (E : En) (ad : Nat → Nat) (fl : Nat) (g : Nat → Int32) (a : Nat → Nat → Int32) (v : Nat → Int64) (tl : va_W) (r c : Int32)  : Ct E mX1_hasCell 1 0 0 [.ref (ad 18), .int r, .int c] (cw E ad fl g a v tl) (fun o w => o = some (.int (hc g r c)) ∧ w = cw E ad fl g a v tl) := by
  refine Ct.of (by decide) (Nat.le_of_ble_eq_true rfl) (fun X C hQ hin => ?_)
  have C : Cx E X cX1_hasCell 3 RX1 (some .boolean) 1 40 0 0 := C
  refine mg_iload_n C dX1_hasCell_0 rfl ?_
  refine mg_iconst (v := 0) C dX1_hasCell_1 (by decide) ?_
  refine mg_aload_n C dX1_hasCell_2 rfl ?_
  refine mg_get C inG_X1 fX1_28 (ci := 1) rfl rfl 18 rfl rfl dX1_hasCell_3 ?_
  refine mg_iconst (v := 1) C dX1_hasCell_6 (by decide) ?_
  refine mg_isub C dX1_hasCell_7 ?_
  refine mg_callSN C (ct_X4_within E _ _ _ _) oX1_47 rfl rfl rfl dX1_hasCell_8 (fun o8 w8 z8 => ?_)
  obtain ⟨rfl, rfl⟩ := z8
  refine mg_v ?_
  refine mg_if_eq C 32 dX1_hasCell_11 (by decide) (fun h11 => ?_) (fun h11 => ?_)
  · refine mg_iconst (v := 0) C dX1_hasCell_32 (by decide) ?_
    exact mg_zret C hQ (rfl) dX1_hasCell_33 (⟨by rw [hc, if_pos h11] <;> first | rfl | decide, rfl⟩)
  · refine mg_iload_n C dX1_hasCell_14 rfl ?_
    refine mg_iconst (v := 0) C dX1_hasCell_15 (by decide) ?_
    refine mg_aload_n C dX1_hasCell_16 rfl ?_
    refine mg_get C inG_X1 fX1_32 (ci := 1) rfl rfl 18 rfl rfl dX1_hasCell_17 ?_
    refine mg_iconst (v := 1) C dX1_hasCell_20 (by decide) ?_
    refine mg_isub C dX1_hasCell_21 ?_
    refine mg_callSN C (ct_X4_within E _ _ _ _) oX1_47 rfl rfl rfl dX1_hasCell_22 (fun o22 w22 z22 => ?_)
    obtain ⟨rfl, rfl⟩ := z22
    refine mg_v ?_
    refine mg_if_eq C 32 dX1_hasCell_25 (by decide) (fun h25 => ?_) (fun h25 => ?_)
    · refine mg_iconst (v := 0) C dX1_hasCell_32 (by decide) ?_
      exact mg_zret C hQ (rfl) dX1_hasCell_33 (⟨by rw [hc, if_neg h11, if_pos h25] <;> first | rfl | decide, rfl⟩)
    · refine mg_iconst (v := 1) C dX1_hasCell_28 (by decide) ?_
      refine mg_goto C 33 dX1_hasCell_29 (by decide) ?_
      exact mg_zret C hQ (rfl) dX1_hasCell_33 (⟨by rw [hc, if_neg h11, if_neg h25] <;> first | rfl | decide, rfl⟩)
set_option maxHeartbeats 400000 in
set_option maxRecDepth 100000 in
theorem ct_X1_place (E : En) (ad : Nat → Nat) (fl : Nat) (g : Nat → Int32) (a : Nat → Nat → Int32) (v : Nat → Int64) (tl : va_W) (r c : Int32)  : Ct E mX1_place 0 0 0 [.ref (ad 18), .int r, .int c] (cw E ad fl g a v tl) (fun o w => o = some (.int (r * 24 + c)) ∧ w = cw E ad fl g a v tl) := by
  refine Ct.of (by decide) (Nat.le_of_ble_eq_true rfl) (fun X C hQ hin => ?_)
  have C : Cx E X cX1_place 3 RX1 (some .int) 0 0 0 0 := C
  refine mg_iload_n C dX1_place_0 rfl ?_
  refine mg_bipush (v := 24) C dX1_place_1 (by decide) ?_
  refine mg_imul C dX1_place_3 ?_
  refine mg_iload_n C dX1_place_4 rfl ?_
  refine mg_iadd C dX1_place_5 ?_
  exact mg_iret C hQ dX1_place_6 (⟨rfl, rfl⟩)
set_option maxHeartbeats 400000 in
set_option maxRecDepth 100000 in
theorem ct_X1_sticks (E : En) (ad : Nat → Nat) (fl : Nat) (g : Nat → Int32) (a : Nat → Nat → Int32) (v : Nat → Int64) (tl : va_W) (z : Int32) (hz : vp_in z 192) : Ct E mX1_sticks 0 0 0 [.ref (ad 18), .int z] (cw E ad fl g a v tl) (fun o w => o = some (.int (sk a z)) ∧ w = cw E ad fl g a v tl) := by
  refine Ct.of (by decide) (Nat.le_of_ble_eq_true rfl) (fun X C hQ hin => ?_)
  have C : Cx E X cX1_sticks 2 RX1 (some .boolean) 0 0 0 0 := C
  refine mg_aload_n C dX1_sticks_0 rfl ?_
  refine mg_get C inG_X1 fX1_15 (ci := 1) rfl rfl 18 rfl rfl dX1_sticks_1 ?_
  refine mg_iload_n C dX1_sticks_4 rfl ?_
  refine mg_iald C 16 rfl (hz) dX1_sticks_5 ?_
  refine mg_iconst (v := (-1)) C dX1_sticks_6 (by decide) ?_
  refine mg_icmp_eq C 14 dX1_sticks_7 (by decide) (fun h7 => ?_) (fun h7 => ?_)
  · refine mg_iconst (v := 0) C dX1_sticks_14 (by decide) ?_
    exact mg_zret C hQ (rfl) dX1_sticks_15 (⟨by rw [sk, if_pos h7] <;> first | rfl | decide, rfl⟩)
  · refine mg_iconst (v := 1) C dX1_sticks_10 (by decide) ?_
    refine mg_goto C 15 dX1_sticks_11 (by decide) ?_
    exact mg_zret C hQ (rfl) dX1_sticks_15 (⟨by rw [sk, if_neg h7] <;> first | rfl | decide, rfl⟩)
set_option maxHeartbeats 400000 in
set_option maxRecDepth 100000 in
theorem ct_X1_sticksAtAnother (E : En) (ad : Nat → Nat) (fl : Nat) (g : Nat → Int32) (a : Nat → Nat → Int32) (v : Nat → Int64) (tl : va_W) (z y : Int32) (hz : vp_in z 192) : Ct E mX1_sticksAtAnother 1 0 0 [.ref (ad 18), .int z, .int y] (cw E ad fl g a v tl) (fun o w => o = some (.int (sa a z y)) ∧ w = cw E ad fl g a v tl) := by
  refine Ct.of (by decide) (Nat.le_of_ble_eq_true rfl) (fun X C hQ hin => ?_)
  have C : Cx E X cX1_sticksAtAnother 3 RX1 (some .boolean) 1 40 0 0 := C
  refine mg_aload_n C dX1_sticksAtAnother_0 rfl ?_
  refine mg_iload_n C dX1_sticksAtAnother_1 rfl ?_
  refine mg_callV C (ct_X1_sticks E _ _ _ _ _ _ _ hz) oX1_51 18 rfl rfl rfl rfl rfl dX1_sticksAtAnother_2 (fun o2 w2 z2 => ?_)
  obtain ⟨rfl, rfl⟩ := z2
  refine mg_v ?_
  refine mg_if_eq C 22 dX1_sticksAtAnother_5 (by decide) (fun h5 => ?_) (fun h5 => ?_)
  · refine mg_iconst (v := 0) C dX1_sticksAtAnother_22 (by decide) ?_
    exact mg_zret C hQ (rfl) dX1_sticksAtAnother_23 (⟨by rw [sa, if_pos h5] <;> first | rfl | decide, rfl⟩)
  · refine mg_aload_n C dX1_sticksAtAnother_8 rfl ?_
    refine mg_get C inG_X1 fX1_15 (ci := 1) rfl rfl 18 rfl rfl dX1_sticksAtAnother_9 ?_
    refine mg_iload_n C dX1_sticksAtAnother_12 rfl ?_
    refine mg_iald C 16 rfl (hz) dX1_sticksAtAnother_13 ?_
    refine mg_iload_n C dX1_sticksAtAnother_14 rfl ?_
    refine mg_icmp_eq C 22 dX1_sticksAtAnother_15 (by decide) (fun h15 => ?_) (fun h15 => ?_)
    · refine mg_iconst (v := 0) C dX1_sticksAtAnother_22 (by decide) ?_
      exact mg_zret C hQ (rfl) dX1_sticksAtAnother_23 (⟨by rw [sa, if_neg h5, if_pos h15] <;> first | rfl | decide, rfl⟩)
    · refine mg_iconst (v := 1) C dX1_sticksAtAnother_18 (by decide) ?_
      refine mg_goto C 23 dX1_sticksAtAnother_19 (by decide) ?_
      exact mg_zret C hQ (rfl) dX1_sticksAtAnother_23 (⟨by rw [sa, if_neg h5, if_neg h15] <;> first | rfl | decide, rfl⟩)
set_option maxHeartbeats 400000 in
set_option maxRecDepth 100000 in
theorem ct_X1_put (E : En) (ad : Nat → Nat) (fl : Nat) (g : Nat → Int32) (a : Nat → Nat → Int32) (v : Nat → Int64) (tl : va_W) (z y : Int32) (hz : vp_in z 192) : Ct E mX1_put 1 0 0 [.ref (ad 18), .int z, .int y] (cw E ad fl g a v tl) (fun o w => o = none ∧ w = cw E ad fl g (pu a z y) v tl) := by
  refine Ct.of (by decide) (Nat.le_of_ble_eq_true rfl) (fun X C hQ hin => ?_)
  have C : Cx E X cX1_put 3 RX1 none 1 40 0 0 := C
  refine mg_aload_n C dX1_put_0 rfl ?_
  refine mg_get C inG_X1 fX1_18 (ci := 1) rfl rfl 18 rfl rfl dX1_put_1 ?_
  refine mg_iload_n C dX1_put_4 rfl ?_
  refine mg_iconst (v := 0) C dX1_put_5 (by decide) ?_
  refine mg_iast C 15 rfl (hz) dX1_put_6 (ws' := (cw E ad fl g (ups a 2 (z : Int32).toNatClampNeg 0) v tl)) rfl ?_
  refine mg_aload_n C dX1_put_7 rfl ?_
  refine mg_iload_n C dX1_put_8 rfl ?_
  refine mg_callV C (ct_X1_sticks E _ _ _ _ _ _ _ hz) oX1_51 18 rfl rfl rfl rfl rfl dX1_put_9 (fun o9 w9 z9 => ?_)
  obtain ⟨rfl, rfl⟩ := z9
  refine mg_v ?_
  have hsk : sk (ups a 2 z.toNatClampNeg 0) z = sk a z := rfl
  rw [hsk]
  refine mg_if_ne C 22 dX1_put_12 (by decide) (fun h12 => ?_) (fun h12 => ?_)
  · exact mg_vret C hQ dX1_put_22 (⟨rfl, by rw [pu, if_neg h12]⟩)
  · refine mg_aload_n C dX1_put_15 rfl ?_
    refine mg_get C inG_X1 fX1_9 (ci := 1) rfl rfl 18 rfl rfl dX1_put_16 ?_
    refine mg_iload_n C dX1_put_19 rfl ?_
    refine mg_iload_n C dX1_put_20 rfl ?_
    refine mg_iast C 17 rfl (hz) dX1_put_21 (ws' := (cw E ad fl g (ups (ups a 2 (z : Int32).toNatClampNeg 0) 0 (z : Int32).toNatClampNeg y) v tl)) rfl ?_
    exact mg_vret C hQ dX1_put_22 (⟨rfl, by rw [pu, if_pos h12]⟩)
set_option maxHeartbeats 400000 in
set_option maxRecDepth 100000 in
theorem ct_X1_hold (E : En) (ad : Nat → Nat) (fl : Nat) (g : Nat → Int32) (a : Nat → Nat → Int32) (v : Nat → Int64) (tl : va_W) (z y : Int32) (hz : vp_in z 192) : Ct E mX1_hold 0 0 0 [.ref (ad 18), .int z, .int y] (cw E ad fl g a v tl) (fun o w => o = none ∧ w = cw E ad fl g (ho a z y) v tl) := by
  refine Ct.of (by decide) (Nat.le_of_ble_eq_true rfl) (fun X C hQ hin => ?_)
  have C : Cx E X cX1_hold 3 RX1 none 0 0 0 0 := C
  refine mg_aload_n C dX1_hold_0 rfl ?_
  refine mg_get C inG_X1 fX1_15 (ci := 1) rfl rfl 18 rfl rfl dX1_hold_1 ?_
  refine mg_iload_n C dX1_hold_4 rfl ?_
  refine mg_iload_n C dX1_hold_5 rfl ?_
  refine mg_iast C 16 rfl (hz) dX1_hold_6 (ws' := (cw E ad fl g (ups a 1 (z : Int32).toNatClampNeg y) v tl)) rfl ?_
  refine mg_iload_n C dX1_hold_7 rfl ?_
  refine mg_iconst (v := (-1)) C dX1_hold_8 (by decide) ?_
  refine mg_icmp_eq C 19 dX1_hold_9 (by decide) (fun h9 => ?_) (fun h9 => ?_)
  · exact mg_vret C hQ dX1_hold_19 (⟨rfl, by rw [ho, if_pos h9]⟩)
  · refine mg_aload_n C dX1_hold_12 rfl ?_
    refine mg_get C inG_X1 fX1_9 (ci := 1) rfl rfl 18 rfl rfl dX1_hold_13 ?_
    refine mg_iload_n C dX1_hold_16 rfl ?_
    refine mg_iload_n C dX1_hold_17 rfl ?_
    refine mg_iast C 17 rfl (hz) dX1_hold_18 (ws' := (cw E ad fl g (ups (ups a 1 (z : Int32).toNatClampNeg y) 0 (z : Int32).toNatClampNeg y) v tl)) rfl ?_
    exact mg_vret C hQ dX1_hold_19 (⟨rfl, by rw [ho, if_neg h9]⟩)
set_option maxHeartbeats 400000 in
set_option maxRecDepth 100000 in
theorem ct_X1_tellCell (E : En) (ad : Nat → Nat) (fl : Nat) (g : Nat → Int32) (a : Nat → Nat → Int32) (v : Nat → Int64) (tl : va_W) (z u : Int32) (hz : vp_in z 192) : Ct E mX1_tellCell 0 0 0 [.ref (ad 18), .int z, .int u] (cw E ad fl g a v tl) (fun o w => o = some (.int (tc a z u)) ∧ w = cw E ad fl g a v tl) := by
  refine Ct.of (by decide) (Nat.le_of_ble_eq_true rfl) (fun X C hQ hin => ?_)
  have C : Cx E X cX1_tellCell 3 RX1 (some .int) 0 0 0 0 := C
  refine mg_iload_n C dX1_tellCell_0 rfl ?_
  refine mg_if_ne C 11 dX1_tellCell_1 (by decide) (fun h1 => ?_) (fun h1 => ?_)
  · refine mg_iload_n C dX1_tellCell_11 rfl ?_
    refine mg_iconst (v := 1) C dX1_tellCell_12 (by decide) ?_
    refine mg_icmp_ne C 25 dX1_tellCell_13 (by decide) (fun h13 => ?_) (fun h13 => ?_)
    · refine mg_aload_n C dX1_tellCell_25 rfl ?_
      refine mg_get C inG_X1 fX1_18 (ci := 1) rfl rfl 18 rfl rfl dX1_tellCell_26 ?_
      refine mg_iload_n C dX1_tellCell_29 rfl ?_
      refine mg_iald C 15 rfl (hz) dX1_tellCell_30 ?_
      exact mg_iret C hQ dX1_tellCell_31 (⟨by rw [tc, if_neg h1, if_neg h13] <;> first | rfl | decide, rfl⟩)
    · refine mg_aload_n C dX1_tellCell_16 rfl ?_
      refine mg_get C inG_X1 fX1_15 (ci := 1) rfl rfl 18 rfl rfl dX1_tellCell_17 ?_
      refine mg_iload_n C dX1_tellCell_20 rfl ?_
      refine mg_iald C 16 rfl (hz) dX1_tellCell_21 ?_
      refine mg_goto C 31 dX1_tellCell_22 (by decide) ?_
      exact mg_iret C hQ dX1_tellCell_31 (⟨by rw [tc, if_neg h1, if_pos h13] <;> first | rfl | decide, rfl⟩)
  · refine mg_aload_n C dX1_tellCell_4 rfl ?_
    refine mg_get C inG_X1 fX1_9 (ci := 1) rfl rfl 18 rfl rfl dX1_tellCell_5 ?_
    refine mg_iload_n C dX1_tellCell_8 rfl ?_
    refine mg_iald C 17 rfl (hz) dX1_tellCell_9 ?_
    exact mg_iret C hQ dX1_tellCell_10 (⟨by rw [tc, if_pos h1] <;> first | rfl | decide, rfl⟩)
set_option maxHeartbeats 400000 in
set_option maxRecDepth 100000 in
theorem ct_X1_convert (E : En) (ad : Nat → Nat) (fl : Nat) (g : Nat → Int32) (a : Nat → Nat → Int32) (v : Nat → Int64) (tl : va_W) (z : Int32)  : Ct E mX1_convert 1 0 0 [.ref (ad 18), .int z] (cw E ad fl g a v tl) (fun o w => o = some (.int (mn z ((1 : Int32) <<< (g 3 &&& 31) - 1))) ∧ w = cw E ad fl g a v tl) := by
  refine Ct.of (by decide) (Nat.le_of_ble_eq_true rfl) (fun X C hQ hin => ?_)
  have C : Cx E X cX1_convert 2 RX1 (some .int) 1 40 0 0 := C
  refine mg_iload_n C dX1_convert_0 rfl ?_
  refine mg_iconst (v := 1) C dX1_convert_1 (by decide) ?_
  refine mg_aload_n C dX1_convert_2 rfl ?_
  refine mg_get C inG_X1 fX1_38 (ci := 1) rfl rfl 18 rfl rfl dX1_convert_3 ?_
  refine mg_ishl C dX1_convert_6 ?_
  refine mg_iconst (v := 1) C dX1_convert_7 (by decide) ?_
  refine mg_isub C dX1_convert_8 ?_
  refine mg_mmin C dX1_convert_9 oX1_59m rfl ?_
  exact mg_iret C hQ dX1_convert_12 (⟨rfl, rfl⟩)
set_option maxHeartbeats 400000 in
set_option maxRecDepth 100000 in
theorem ct_X3_exists (E : En) (ad : Nat → Nat) (fl : Nat) (g : Nat → Int32) (a : Nat → Nat → Int32) (v : Nat → Int64) (tl : va_W)   : Ct E mX3_exists 0 0 0 [.ref (ad 13)] (cw E ad fl g a v tl) (fun o w => o = some (.int (ex g)) ∧ w = cw E ad fl g a v tl) := by
  refine Ct.of (by decide) (Nat.le_of_ble_eq_true rfl) (fun X C hQ hin => ?_)
  have C : Cx E X cX3_exists 1 RX3 (some .boolean) 0 0 0 0 := C
  refine mg_aload_n C dX3_exists_0 rfl ?_
  refine mg_get C inG_X3 fX3_31 (ci := 3) rfl rfl 13 rfl rfl dX3_exists_1 ?_
  refine mg_if_le C 11 dX3_exists_4 (by decide) (fun h4 => ?_) (fun h4 => ?_)
  · refine mg_iconst (v := 0) C dX3_exists_11 (by decide) ?_
    exact mg_zret C hQ (rfl) dX3_exists_12 (⟨by rw [ex, if_pos h4] <;> first | rfl | decide, rfl⟩)
  · refine mg_iconst (v := 1) C dX3_exists_7 (by decide) ?_
    refine mg_goto C 12 dX3_exists_8 (by decide) ?_
    exact mg_zret C hQ (rfl) dX3_exists_12 (⟨by rw [ex, if_neg h4] <;> first | rfl | decide, rfl⟩)
def dr (g : Nat → Int32) : Nat → Int32 := ug (ug (ug (ug g 4 0) 5 0) 6 0) 8 0
set_option maxHeartbeats 400000 in
set_option maxRecDepth 100000 in
theorem ct_X3_drop (E : En) (ad : Nat → Nat) (fl : Nat) (g : Nat → Int32) (a : Nat → Nat → Int32) (v : Nat → Int64) (tl : va_W)   : Ct E mX3_drop 0 0 0 [.ref (ad 13)] (cw E ad fl g a v tl) (fun o w => o = none ∧ w = cw E ad fl (dr g) a v tl) := by
  refine Ct.of (by decide) (Nat.le_of_ble_eq_true rfl) (fun X C hQ hin => ?_)
  have C : Cx E X cX3_drop 1 RX3 none 0 0 0 0 := C
  refine mg_aload_n C dX3_drop_0 rfl ?_
  refine mg_iconst (v := 0) C dX3_drop_1 (by decide) ?_
  refine mg_put C inG_X3 fX3_31 (ci := 3) rfl rfl tyX3 tyX3_ok nmX3 rfl 13 rfl rfl rfl rfl dX3_drop_2 (ws' := (cw E ad fl (ug g 4 0) a v tl)) rfl ?_
  refine mg_aload_n C dX3_drop_5 rfl ?_
  refine mg_iconst (v := 0) C dX3_drop_6 (by decide) ?_
  refine mg_put C inG_X3 fX3_35 (ci := 3) rfl rfl tyX3 tyX3_ok nmX3 rfl 13 rfl rfl rfl rfl dX3_drop_7 (ws' := (cw E ad fl (ug (ug g 4 0) 5 0) a v tl)) rfl ?_
  refine mg_aload_n C dX3_drop_10 rfl ?_
  refine mg_iconst (v := 0) C dX3_drop_11 (by decide) ?_
  refine mg_put C inG_X3 fX3_38 (ci := 3) rfl rfl tyX3 tyX3_ok nmX3 rfl 13 rfl rfl rfl rfl dX3_drop_12 (ws' := (cw E ad fl (ug (ug (ug g 4 0) 5 0) 6 0) a v tl)) rfl ?_
  refine mg_aload_n C dX3_drop_15 rfl ?_
  refine mg_iconst (v := 0) C dX3_drop_16 (by decide) ?_
  refine mg_put C inG_X3 fX3_41 (ci := 3) rfl rfl tyX3 tyX3_ok nmX3 rfl 13 rfl rfl rfl rfl dX3_drop_17 (ws' := (cw E ad fl (ug (ug (ug (ug g 4 0) 5 0) 6 0) 8 0) a v tl)) rfl ?_
  exact mg_vret C hQ dX3_drop_20 (⟨rfl, rfl⟩)
def rg (g : Nat → Int32) (r c u : Int32) : Nat → Int32 := ug (ug (ug (ug g 0 r) 1 c) 2 u) 3 16
def ra (a : Nat → Nat → Int32) : Nat → Nat → Int32 := upa (upa (upa (upa a 0 (fun _ => 0)) 1 (fun _ => -1)) 2 (fun _ => 0)) 3 (fun _ => 0)
set_option maxHeartbeats 400000 in
set_option maxRecDepth 100000 in
theorem ct_X1_renew (E : En) (ad : Nat → Nat) (fl : Nat) (g : Nat → Int32) (a : Nat → Nat → Int32) (v : Nat → Int64) (tl : va_W) (r c u : Int32)  : Ct E mX1_renew 1 0 0 [.ref (ad 18), .int r, .int c, .int u] (cw E ad fl g a v tl) (fun o w => o = none ∧ w = cw E ad fl (rg g r c u) (ra a) v tl) := by
  refine Ct.of (by decide) (Nat.le_of_ble_eq_true rfl) (fun X C hQ hin => ?_)
  have C : Cx E X cX1_renew 4 RX1 none 1 40 0 0 := C
  refine mg_aload_n C dX1_renew_0 rfl ?_
  refine mg_iload_n C dX1_renew_1 rfl ?_
  refine mg_put C inG_X1 fX1_28 (ci := 1) rfl rfl tyX1 tyX1_ok nmX1 rfl 18 rfl rfl rfl rfl dX1_renew_2 (ws' := (cw E ad fl (ug g 0 r) a v tl)) rfl ?_
  refine mg_aload_n C dX1_renew_5 rfl ?_
  refine mg_iload_n C dX1_renew_6 rfl ?_
  refine mg_put C inG_X1 fX1_32 (ci := 1) rfl rfl tyX1 tyX1_ok nmX1 rfl 18 rfl rfl rfl rfl dX1_renew_7 (ws' := (cw E ad fl (ug (ug g 0 r) 1 c) a v tl)) rfl ?_
  refine mg_aload_n C dX1_renew_10 rfl ?_
  refine mg_iload_n C dX1_renew_11 rfl ?_
  refine mg_put C inG_X1 fX1_35 (ci := 1) rfl rfl tyX1 tyX1_ok nmX1 rfl 18 rfl rfl rfl rfl dX1_renew_12 (ws' := (cw E ad fl (ug (ug (ug g 0 r) 1 c) 2 u) a v tl)) rfl ?_
  refine mg_aload_n C dX1_renew_15 rfl ?_
  refine mg_bipush (v := 16) C dX1_renew_16 (by decide) ?_
  refine mg_put C inG_X1 fX1_38 (ci := 1) rfl rfl tyX1 tyX1_ok nmX1 rfl 18 rfl rfl rfl rfl dX1_renew_18 (ws' := (cw E ad fl (ug (ug (ug (ug g 0 r) 1 c) 2 u) 3 16) a v tl)) rfl ?_
  refine mg_aload_n C dX1_renew_21 rfl ?_
  refine mg_get C inG_X1 fX1_9 (ci := 1) rfl rfl 18 rfl rfl dX1_renew_22 ?_
  refine mg_iconst (v := 0) C dX1_renew_25 (by decide) ?_
  refine mg_callS C (ct_J7_fill_53178 E _ 17 _ _ _ rfl rfl _) oX1_41 rfl rfl rfl dX1_renew_26 (fun o26 w26 z26 => ?_)
  obtain ⟨rfl, rfl⟩ := z26
  refine mg_ws (ws' := (cw E ad fl (ug (ug (ug (ug g 0 r) 1 c) 2 u) 3 16) (upa a 0 (fun _ => 0)) v tl)) rfl ?_
  refine mg_v0 ?_
  refine mg_aload_n C dX1_renew_29 rfl ?_
  refine mg_get C inG_X1 fX1_15 (ci := 1) rfl rfl 18 rfl rfl dX1_renew_30 ?_
  refine mg_iconst (v := (-1)) C dX1_renew_33 (by decide) ?_
  refine mg_callS C (ct_J7_fill_53178 E _ 16 _ _ _ rfl rfl _) oX1_41 rfl rfl rfl dX1_renew_34 (fun o34 w34 z34 => ?_)
  obtain ⟨rfl, rfl⟩ := z34
  refine mg_ws (ws' := (cw E ad fl (ug (ug (ug (ug g 0 r) 1 c) 2 u) 3 16) (upa (upa a 0 (fun _ => 0)) 1 (fun _ => (-1))) v tl)) rfl ?_
  refine mg_v0 ?_
  refine mg_aload_n C dX1_renew_37 rfl ?_
  refine mg_get C inG_X1 fX1_18 (ci := 1) rfl rfl 18 rfl rfl dX1_renew_38 ?_
  refine mg_iconst (v := 0) C dX1_renew_41 (by decide) ?_
  refine mg_callS C (ct_J7_fill_53178 E _ 15 _ _ _ rfl rfl _) oX1_41 rfl rfl rfl dX1_renew_42 (fun o42 w42 z42 => ?_)
  obtain ⟨rfl, rfl⟩ := z42
  refine mg_ws (ws' := (cw E ad fl (ug (ug (ug (ug g 0 r) 1 c) 2 u) 3 16) (upa (upa (upa a 0 (fun _ => 0)) 1 (fun _ => (-1))) 2 (fun _ => 0)) v tl)) rfl ?_
  refine mg_v0 ?_
  refine mg_aload_n C dX1_renew_45 rfl ?_
  refine mg_get C inG_X1 fX1_21 (ci := 1) rfl rfl 18 rfl rfl dX1_renew_46 ?_
  refine mg_iconst (v := 0) C dX1_renew_49 (by decide) ?_
  refine mg_callS C (ct_J7_fill_53178 E _ 14 _ _ _ rfl rfl _) oX1_41 rfl rfl rfl dX1_renew_50 (fun o50 w50 z50 => ?_)
  obtain ⟨rfl, rfl⟩ := z50
  refine mg_ws (ws' := (cw E ad fl (ug (ug (ug (ug g 0 r) 1 c) 2 u) 3 16) (upa (upa (upa (upa a 0 (fun _ => 0)) 1 (fun _ => (-1))) 2 (fun _ => 0)) 3 (fun _ => 0)) v tl)) rfl ?_
  refine mg_v0 ?_
  exact mg_vret C hQ dX1_renew_53 (⟨rfl, rfl⟩)
set_option maxHeartbeats 400000 in
set_option maxRecDepth 100000 in
theorem cg_X1_renew (E : En) (ad : Nat → Nat) (g : Nat → Int32) (a : Nat → Nat → Int32) (tl : va_W) (r c u : Int32)  : Ct E mX1_renew 1 0 0 [.ref (ad 18), .int r, .int c, .int u] (gw E ad g a tl) (fun o w => o = none ∧ w = gw E ad (rg g r c u) (ra a) tl) := by
  refine Ct.of (by decide) (Nat.le_of_ble_eq_true rfl) (fun X C hQ hin => ?_)
  have C : Cx E X cX1_renew 4 RX1 none 1 40 0 0 := C
  refine mg_aload_n C dX1_renew_0 rfl ?_
  refine mg_iload_n C dX1_renew_1 rfl ?_
  refine mg_put C inG_X1 fX1_28 (ci := 1) rfl rfl tyX1 tyX1_ok nmX1 rfl 4 rfl rfl rfl rfl dX1_renew_2 (ws' := (gw E ad (ug g 0 r) a tl)) rfl ?_
  refine mg_aload_n C dX1_renew_5 rfl ?_
  refine mg_iload_n C dX1_renew_6 rfl ?_
  refine mg_put C inG_X1 fX1_32 (ci := 1) rfl rfl tyX1 tyX1_ok nmX1 rfl 4 rfl rfl rfl rfl dX1_renew_7 (ws' := (gw E ad (ug (ug g 0 r) 1 c) a tl)) rfl ?_
  refine mg_aload_n C dX1_renew_10 rfl ?_
  refine mg_iload_n C dX1_renew_11 rfl ?_
  refine mg_put C inG_X1 fX1_35 (ci := 1) rfl rfl tyX1 tyX1_ok nmX1 rfl 4 rfl rfl rfl rfl dX1_renew_12 (ws' := (gw E ad (ug (ug (ug g 0 r) 1 c) 2 u) a tl)) rfl ?_
  refine mg_aload_n C dX1_renew_15 rfl ?_
  refine mg_bipush (v := 16) C dX1_renew_16 (by decide) ?_
  refine mg_put C inG_X1 fX1_38 (ci := 1) rfl rfl tyX1 tyX1_ok nmX1 rfl 4 rfl rfl rfl rfl dX1_renew_18 (ws' := (gw E ad (ug (ug (ug (ug g 0 r) 1 c) 2 u) 3 16) a tl)) rfl ?_
  refine mg_aload_n C dX1_renew_21 rfl ?_
  refine mg_get C inG_X1 fX1_9 (ci := 1) rfl rfl 4 rfl rfl dX1_renew_22 ?_
  refine mg_iconst (v := 0) C dX1_renew_25 (by decide) ?_
  refine mg_callS C (ct_J7_fill_53178 E _ 3 _ _ _ rfl rfl _) oX1_41 rfl rfl rfl dX1_renew_26 (fun o26 w26 z26 => ?_)
  obtain ⟨rfl, rfl⟩ := z26
  refine mg_ws (ws' := (gw E ad (ug (ug (ug (ug g 0 r) 1 c) 2 u) 3 16) (upa a 0 (fun _ => 0)) tl)) rfl ?_
  refine mg_v0 ?_
  refine mg_aload_n C dX1_renew_29 rfl ?_
  refine mg_get C inG_X1 fX1_15 (ci := 1) rfl rfl 4 rfl rfl dX1_renew_30 ?_
  refine mg_iconst (v := (-1)) C dX1_renew_33 (by decide) ?_
  refine mg_callS C (ct_J7_fill_53178 E _ 2 _ _ _ rfl rfl _) oX1_41 rfl rfl rfl dX1_renew_34 (fun o34 w34 z34 => ?_)
  obtain ⟨rfl, rfl⟩ := z34
  refine mg_ws (ws' := (gw E ad (ug (ug (ug (ug g 0 r) 1 c) 2 u) 3 16) (upa (upa a 0 (fun _ => 0)) 1 (fun _ => (-1))) tl)) rfl ?_
  refine mg_v0 ?_
  refine mg_aload_n C dX1_renew_37 rfl ?_
  refine mg_get C inG_X1 fX1_18 (ci := 1) rfl rfl 4 rfl rfl dX1_renew_38 ?_
  refine mg_iconst (v := 0) C dX1_renew_41 (by decide) ?_
  refine mg_callS C (ct_J7_fill_53178 E _ 1 _ _ _ rfl rfl _) oX1_41 rfl rfl rfl dX1_renew_42 (fun o42 w42 z42 => ?_)
  obtain ⟨rfl, rfl⟩ := z42
  refine mg_ws (ws' := (gw E ad (ug (ug (ug (ug g 0 r) 1 c) 2 u) 3 16) (upa (upa (upa a 0 (fun _ => 0)) 1 (fun _ => (-1))) 2 (fun _ => 0)) tl)) rfl ?_
  refine mg_v0 ?_
  refine mg_aload_n C dX1_renew_45 rfl ?_
  refine mg_get C inG_X1 fX1_21 (ci := 1) rfl rfl 4 rfl rfl dX1_renew_46 ?_
  refine mg_iconst (v := 0) C dX1_renew_49 (by decide) ?_
  refine mg_callS C (ct_J7_fill_53178 E _ 0 _ _ _ rfl rfl _) oX1_41 rfl rfl rfl dX1_renew_50 (fun o50 w50 z50 => ?_)
  obtain ⟨rfl, rfl⟩ := z50
  refine mg_ws (ws' := (gw E ad (ug (ug (ug (ug g 0 r) 1 c) 2 u) 3 16) (upa (upa (upa (upa a 0 (fun _ => 0)) 1 (fun _ => (-1))) 2 (fun _ => 0)) 3 (fun _ => 0)) tl)) rfl ?_
  refine mg_v0 ?_
  exact mg_vret C hQ dX1_renew_53 (⟨rfl, rfl⟩)
