def Bz : Bs := (0, fun _ => 0, fun _ => 0, fun _ => 0)
def Bb : Bs := (amt Bz 0 0 0).2
def KS (k s : Nat) : Prop := (1 ≤ k ∧ k ≤ 3) ∧ k ≤ s ∧ s ≤ 5
def Cap (k s : Nat) : Nat := 2 ^ ((s - k) * 2 ^ k)
theorem pow_le3 {k : Nat} (h : k ≤ 3) : 2 ^ k ≤ 8 := Nat.le_trans (Nat.pow_le_pow_right (by omega) h) (by decide)
theorem ks_cases {k s : Nat} (h : KS k s) : (k = 1 ∧ (s = 1 ∨ s = 2 ∨ s = 3 ∨ s = 4 ∨ s = 5)) ∨ (k = 2 ∧ (s = 2 ∨ s = 3 ∨ s = 4 ∨ s = 5)) ∨ (k = 3 ∧ (s = 3 ∨ s = 4 ∨ s = 5)) := by
  obtain ⟨⟨h1, h2⟩, h3, h4⟩ := h
  omega
theorem cap_le {k s : Nat} (h : KS k s) : Cap k s ≤ 65536 := by
  rcases ks_cases h with ⟨rfl, h | h | h | h | h⟩ | ⟨rfl, h | h | h | h⟩ | ⟨rfl, h | h | h⟩ <;> subst h <;> decide
theorem sh_le {k s c : Nat} (h : KS k s) (h1 : k ≤ c) (h2 : c < s) : (c - k) * 2 ^ k + 2 ^ k ≤ (s - k) * 2 ^ k := by
  have e : (c - k) * 2 ^ k + 2 ^ k = (c - k + 1) * 2 ^ k := by rw [Nat.add_mul, Nat.one_mul]
  rw [e]
  exact Nat.mul_le_mul_right _ (by omega)
theorem sh_16 {k s : Nat} (h : KS k s) : (s - k) * 2 ^ k ≤ 16 := by
  rcases ks_cases h with ⟨rfl, h | h | h | h | h⟩ | ⟨rfl, h | h | h | h⟩ | ⟨rfl, h | h | h⟩ <;> subst h <;> decide
theorem mk_lt {k : Nat} (h : k ≤ 3) : Mk k < 256 := by
  rcases (by omega : k = 0 ∨ k = 1 ∨ k = 2 ∨ k = 3) with rfl | rfl | rfl | rfl <;> decide
theorem mk_pow {k : Nat} : Mk k < 2 ^ 2 ^ k := by
  unfold Mk
  have : 0 < 2 ^ 2 ^ k := Nat.pow_pos (by omega)
  omega
theorem nei_lt {k x p q : Nat} : nei k x p q < 2 ^ 2 ^ k := Nat.lt_of_le_of_lt Nat.and_le_right mk_pow
theorem nxt_lt {k s x p q c : Nat} (h : KS k s) (hx : x < Cap k s) (h1 : k ≤ c) (h2 : c < s) : nxt k x p q c < Cap k s := by
  unfold nxt Cap at *
  refine Nat.or_lt_two_pow (Nat.lt_of_le_of_lt Nat.and_le_left hx) ?_
  rw [Nat.shiftLeft_eq]
  have h3 := sh_le h h1 h2
  calc nei k x p q * 2 ^ ((c - k) * 2 ^ k) < 2 ^ 2 ^ k * 2 ^ ((c - k) * 2 ^ k) := Nat.mul_lt_mul_of_pos_right nei_lt (Nat.pow_pos (by omega))
    _ = 2 ^ (2 ^ k + (c - k) * 2 ^ k) := (Nat.pow_add ..).symm
    _ ≤ 2 ^ ((s - k) * 2 ^ k) := Nat.pow_le_pow_right (by omega) (by omega)
def BW (k s : Nat) (B : Bs) : Prop := B.1 ≤ 8000 ∧ ∀ i, i < B.1 → B.2.1 i < Cap k s ∧ B.2.2.1 i < 8000 ∧ (i = 0 ∨ B.2.2.1 i < i) ∧ B.2.2.2 i < 512
def CI (k s : Nat) (B : Bs) (g : Nat → Int32) (a : Nat → Nat → Int32) (v : Nat → Int64) : Prop :=
  (g 10 = nI k ∧ g 11 = nI s ∧ g 12 = nI (2 ^ k) ∧ g 13 = nI (Mk k) ∧ g 14 = nI B.1) ∧ BW k s B ∧ (∀ i, i < B.1 → v i = pv (B.2.1 i) (B.2.2.1 i) (B.2.2.2 i)) ∧ (∀ y, y < 65536 → sb (a 11) y = sn B.1 B.2.1 y) ∧ (∀ i, i < k → a 12 i = nI (inR i (2 ^ k)))
theorem bw_add {k s : Nat} {B : Bs} {x f z : Nat} (hB : BW k s B) (hx : x < Cap k s) (hf : f < 8000 ∧ (B.1 = 0 ∨ f < B.1)) (hz : z < 512) (hc : B.1 < 8000) : BW k s (B.1 + 1, un B.2.1 B.1 x, un B.2.2.1 B.1 f, un B.2.2.2 B.1 z) := by
  refine ⟨hc, fun i hi => ?_⟩
  by_cases e : i = B.1
  · subst e
    dsimp only
    rw [un_s, un_s, un_s]
    exact ⟨hx, hf.1, hf.2, hz⟩
  · dsimp only
    rw [un_n e, un_n e, un_n e]
    exact hB.2 i (by dsimp only at hi; omega)
theorem ci_add {k s : Nat} {B : Bs} {g : Nat → Int32} {a : Nat → Nat → Int32} {v : Nat → Int64} {x f z : Nat} (hI : CI k s B g a v) (hx : x < Cap k s) (hf : f < 8000 ∧ (B.1 = 0 ∨ f < B.1)) (hz : z < 512) (hc : B.1 < 8000) :
    CI k s (B.1 + 1, un B.2.1 B.1 x, un B.2.2.1 B.1 f, un B.2.2.2 B.1 z) (ug g 14 (nI B.1 + 1)) (ups a 11 (x >>> 5) (a 11 (x >>> 5) ||| nI (1 <<< (x &&& 31)))) (vp_updL v B.1 (pv x f z)) := by
  obtain ⟨⟨h10, h11, h12, h13, h14⟩, hB, hv, hs, hin⟩ := hI
  refine ⟨⟨h10, h11, h12, h13, nI_1 B.1⟩, bw_add hB hx hf hz hc, fun i hi => ?_, fun y hy => ?_, hin⟩
  · by_cases e : i = B.1
    · subst e
      dsimp only
      rw [pk_uLs, un_s, un_s, un_s]
    · dsimp only
      rw [pk_uLn e, un_n e, un_n e, un_n e]
      exact hv i (by dsimp only at hi; omega)
  · show sb (upd (a 11) (x >>> 5) (a 11 (x >>> 5) ||| nI (1 <<< (x &&& 31)))) y = _
    rw [sb_up, hs y hy]
    simp only [sn]
    rw [sn_un (Nat.le_refl _)]
    simp only [un_s]
theorem ug_n {g : Nat → Int32} {i j : Nat} {x : Int32} (h : i ≠ j) : ug g j x i = g i := by
  have e : (i == j) = false := by simpa using h
  unfold ug; rw [nbq, e]; rfl
theorem ups_n {a : Nat → Nat → Int32} {i j k : Nat} {x : Int32} (h : i ≠ j) : ups a j k x i = a i := by
  have e : (i == j) = false := by simpa using h
  unfold ups; rw [nbq, e]; rfl
theorem upa_n {a : Nat → Nat → Int32} {i j : Nat} {f : Nat → Int32} (h : i ≠ j) : upa a j f i = a i := by
  have e : (i == j) = false := by simpa using h
  unfold upa; rw [nbq, e]; rfl
def bi (p : Bool) : Int32 := if p = true then 1 else 0
set_option maxHeartbeats 400000 in
set_option maxRecDepth 100000 in
theorem ct_X2_meet (E : En) (ad : Nat → Nat) (fl : Nat) (g : Nat → Int32) (a : Nat → Nat → Int32) (v : Nat → Int64) (tl : va_W) (kN sN : Nat) (B : Bs) (x f z : Nat) (hk : KS kN sN) (hI : CI kN sN B g a v) (hx : x < Cap kN sN) (hf : f < 8000 ∧ (B.1 = 0 ∨ f < B.1)) (hz : z < 512) : Ct E mX2_meet 1 0 0 [.ref (ad 4), .int (nI x), .int (nI f), .int (nI z)] (cw E ad fl g a v tl) (fun o w => ∃ (g1 : Nat → Int32) (a1 : Nat → Nat → Int32) (v1 : Nat → Int64), o = some (.int (bi (amt B x f z).1)) ∧ CI kN sN (amt B x f z).2 g1 a1 v1 ∧ (∀ i, i ≠ 14 → g1 i = g i) ∧ (∀ j, j ≠ 11 → a1 j = a j) ∧ w = cw E ad fl g1 a1 v1 tl) := by
  refine Ct.of (by decide) (Nat.le_of_ble_eq_true rfl) (fun X C hQ hin => ?_)
  have C : Cx E X cX2_meet 6 RX2 (some .boolean) 1 40 0 0 := C
  obtain ⟨⟨h10, h11, h12, h13, h14⟩, hB, hv, hs, hinp⟩ := id hI
  have hcap := cap_le hk
  have hB8 := hB.1
  have e5 : (nI (x >>> 5)).toNatClampNeg = x >>> 5 := nI_clamp (by rw [Nat.shiftRight_eq_div_pow]; omega)
  have hin5 : vp_in (nI (x >>> 5)) 2048 := vp_in_nI (by rw [Nat.shiftRight_eq_div_pow]; omega) (by decide)
  refine mg_iload_n C dX2_meet_0 rfl ?_
  refine mg_iconst (v := 5) C dX2_meet_1 (by decide) ?_
  refine mg_ishr C dX2_meet_2 ?_
  refine mg_tos (w := .int (nI (x >>> 5))) (by rw [show (5 : Int32) = nI 5 from rfl, ni_shr (by omega) (by omega)]) ?_
  refine mg_istore C dX2_meet_3 rfl ?_
  refine mg_lve (lv' := [(0, _), (1, _), (2, _), (3, _), (4, _)]) rfl ?_
  refine mg_iconst (v := 1) C dX2_meet_5 (by decide) ?_
  refine mg_iload_n C dX2_meet_6 rfl ?_
  refine mg_bipush (v := 31) C dX2_meet_7 (by decide) ?_
  refine mg_iand C dX2_meet_9 ?_
  refine mg_ishl C dX2_meet_10 ?_
  refine mg_tos (w := .int (nI (1 <<< (x &&& 31)))) (by rw [show (31 : Int32) = nI 31 from rfl, show (1 : Int32) = nI 1 from rfl, ni_and]; exact congrArg Value.int (ni_shl (and31 x))) ?_
  refine mg_istore C dX2_meet_11 rfl ?_
  refine mg_lve (lv' := [(0, _), (1, _), (2, _), (3, _), (4, _), (5, _)]) rfl ?_
  refine mg_aload_n C dX2_meet_13 rfl ?_
  refine mg_get C inG_X2 fX2_15 (ci := 2) rfl rfl 4 rfl rfl dX2_meet_14 ?_
  refine mg_iload C dX2_meet_17 rfl ?_
  refine mg_iald C 2 rfl (hin5) dX2_meet_19 ?_
  refine mg_iload C dX2_meet_20 rfl ?_
  refine mg_iand C dX2_meet_22 ?_
  refine mg_if_eq C 28 dX2_meet_23 (by decide) (fun h23 => ?_) (fun h23 => ?_)
  · refine mg_aload_n C dX2_meet_28 rfl ?_
    refine mg_get C inG_X2 fX2_33 (ci := 2) rfl rfl 4 rfl rfl dX2_meet_29 ?_
    refine mg_sipush (v := 8000) C dX2_meet_32 (by decide) ?_
    refine mg_icmp_lt C 40 dX2_meet_35 (by decide) (fun h35 => ?_) (fun h35 => ?_)
    · have hc8 : B.1 < 8000 := (by rw [h14] at h35; rcases Nat.lt_or_ge B.1 8000 with q | q; exact q; exact absurd h35 (nI_nlt (b := 8000) q (by omega)))
      have hin14 : vp_in (g 14) 8000 := (by rw [h14]; exact vp_in_nI hc8 (by decide))
      refine mg_aload_n C dX2_meet_40 rfl ?_
      refine mg_get C inG_X2 fX2_15 (ci := 2) rfl rfl 4 rfl rfl dX2_meet_41 ?_
      refine mg_iload C dX2_meet_44 rfl ?_
      refine mg_dup2_11 C dX2_meet_46 rfl rfl ?_
      refine mg_iald C 2 rfl (hin5) dX2_meet_47 ?_
      refine mg_iload C dX2_meet_48 rfl ?_
      refine mg_ior C dX2_meet_50 ?_
      refine mg_topi (fun zv51 ezv51 => ?_)
      refine mg_iast C 2 rfl (hin5) dX2_meet_51 (ws' := (cw E ad fl g (ups a 11 ((nI (x >>> 5)) : Int32).toNatClampNeg zv51) v tl)) rfl ?_
      refine mg_aload_n C dX2_meet_52 rfl ?_
      refine mg_get C inG_X2 fX2_9 (ci := 2) rfl rfl 4 rfl rfl dX2_meet_53 ?_
      refine mg_aload_n C dX2_meet_56 rfl ?_
      refine mg_get C inG_X2 fX2_33 (ci := 2) rfl rfl 4 rfl rfl dX2_meet_57 ?_
      refine mg_iload_n C dX2_meet_60 rfl ?_
      refine mg_iload_n C dX2_meet_61 rfl ?_
      refine mg_iload_n C dX2_meet_62 rfl ?_
      refine mg_callSN C (ct_X4_packVisit E _ _ _ _) oX2_96 rfl rfl rfl dX2_meet_63 (fun o63 w63 z63 => ?_)
      obtain ⟨rfl, rfl⟩ := z63
      refine mg_v ?_
      refine mg_last C 3 rfl (hin14) dX2_meet_66 (ws' := (cw E ad fl g (ups a 11 ((nI (x >>> 5)) : Int32).toNatClampNeg zv51) (vp_updL v _ _) tl)) rfl ?_
      refine mg_aload_n C dX2_meet_67 rfl ?_
      refine mg_dup C dX2_meet_68 rfl ?_
      refine mg_get C inG_X2 fX2_33 (ci := 2) rfl rfl 4 rfl rfl dX2_meet_69 ?_
      refine mg_iconst (v := 1) C dX2_meet_72 (by decide) ?_
      refine mg_iadd C dX2_meet_73 ?_
      refine mg_topi (fun zv74 ezv74 => ?_)
      refine mg_put C inG_X2 fX2_33 (ci := 2) rfl rfl tyX2 tyX2_ok nmX2 rfl 4 rfl rfl rfl rfl dX2_meet_74 (ws' := (cw E ad fl (ug g 14 zv74) (ups a 11 ((nI (x >>> 5)) : Int32).toNatClampNeg zv51) (vp_updL v _ _) tl)) rfl ?_
      refine mg_iconst (v := 1) C dX2_meet_77 (by decide) ?_
      exact mg_zret C hQ (rfl) dX2_meet_78 (by
    rw [e5] at h23
    have hsn : ¬ sn B.1 B.2.1 x = true := (by rw [← hs x (by omega)]; intro hq; have h0 : sb (a 11) x = false := (mark0 (and31 x)).mp h23; rw [h0] at hq; cases hq)
    have ea : amt B x f z = (true, (B.1 + 1, un B.2.1 B.1 x, un B.2.2.1 B.1 f, un B.2.2.2 B.1 z)) := (if_neg hsn).trans (if_neg (by omega))
    rw [ea]
    refine ⟨_, _, _, rfl, ci_add hI hx hf hz hc8, fun i hi => ?_, fun j hj => ?_, ?_⟩
    · exact ug_n hi
    · exact ups_n hj
    · rw [ezv51, ezv74]; show cw E ad fl (ug g 14 (g 14 + 1)) _ _ tl = _; rw [e5, h14, nI_clamp (by omega : B.1 < 2 ^ 31)]; rfl)
    · refine mg_iconst (v := 0) C dX2_meet_38 (by decide) ?_
      exact mg_zret C hQ (rfl) dX2_meet_39 (by
    rw [e5] at h23
    have hsn : ¬ sn B.1 B.2.1 x = true := (by rw [← hs x (by omega)]; intro hq; have h0 : sb (a 11) x = false := (mark0 (and31 x)).mp h23; rw [h0] at hq; cases hq)
    have hc8 : 8000 ≤ B.1 := (by rw [h14] at h35; rcases Nat.lt_or_ge B.1 8000 with q | q; exact absurd (nI_lt (b := 8000) q (by omega)) h35; exact q)
    have ea : amt B x f z = (false, B) := (if_neg hsn).trans (if_pos hc8)
    rw [ea]
    exact ⟨g, a, v, rfl, hI, fun _ _ => rfl, fun _ _ => rfl, rfl⟩)
  · refine mg_iconst (v := 1) C dX2_meet_26 (by decide) ?_
    exact mg_zret C hQ (rfl) dX2_meet_27 (by
    rw [e5] at h23
    have hsn : sn B.1 B.2.1 x = true := (by rw [← hs x (by omega)]; cases hq : sb (a 11) x with
      | true => rfl
      | false => exact absurd ((mark0 (and31 x)).mpr hq) h23)
    have ea : amt B x f z = (true, B) := if_pos hsn
    rw [ea]
    exact ⟨g, a, v, rfl, hI, fun _ _ => rfl, fun _ _ => rfl, rfl⟩)
set_option maxHeartbeats 400000 in
set_option maxRecDepth 100000 in
theorem ct_X2_shiftOf (E : En) (ad : Nat → Nat) (fl : Nat) (g : Nat → Int32) (a : Nat → Nat → Int32) (v : Nat → Int64) (tl : va_W) (kN c : Nat) (h10 : g 10 = nI kN) (h12 : g 12 = nI (2 ^ kN)) (hkc : kN ≤ c) : Ct E mX2_shiftOf 0 0 0 [.ref (ad 4), .int (nI c)] (cw E ad fl g a v tl) (fun o w => o = some (.int (nI ((c - kN) * 2 ^ kN))) ∧ w = cw E ad fl g a v tl) := by
  refine Ct.of (by decide) (Nat.le_of_ble_eq_true rfl) (fun X C hQ hin => ?_)
  have C : Cx E X cX2_shiftOf 2 RX2 (some .int) 0 0 0 0 := C
  refine mg_iload_n C dX2_shiftOf_0 rfl ?_
  refine mg_aload_n C dX2_shiftOf_1 rfl ?_
  refine mg_get C inG_X2 fX2_58 (ci := 2) rfl rfl 4 rfl rfl dX2_shiftOf_2 ?_
  refine mg_isub C dX2_shiftOf_5 ?_
  refine mg_aload_n C dX2_shiftOf_6 rfl ?_
  refine mg_get C inG_X2 fX2_64 (ci := 2) rfl rfl 4 rfl rfl dX2_shiftOf_7 ?_
  refine mg_imul C dX2_shiftOf_10 ?_
  exact mg_iret C hQ dX2_shiftOf_11 (⟨by rw [h10, h12, pk_sub hkc, pk_mul], rfl⟩)
set_option maxHeartbeats 400000 in
set_option maxRecDepth 100000 in
theorem ct_X2_inputTable (E : En) (ad : Nat → Nat) (fl : Nat) (g : Nat → Int32) (a : Nat → Nat → Int32) (v : Nat → Int64) (tl : va_W) (kN i : Nat) (hk3 : kN ≤ 3) (hi3 : i < 32) (h12 : g 12 = nI (2 ^ kN)) : Ct E mX2_inputTable 0 0 0 [.ref (ad 4), .int (nI i)] (cw E ad fl g a v tl) (fun o w => o = some (.int (nI (inR i (2 ^ kN)))) ∧ w = cw E ad fl g a v tl) := by
  refine Ct.of (by decide) (Nat.le_of_ble_eq_true rfl) (fun X C hQ hin => ?_)
  have C : Cx E X cX2_inputTable 4 RX2 (some .int) 0 0 0 0 := C
  have hp := pow_le3 hk3
  have hpp : 1 ≤ 2 ^ kN := Nat.one_le_two_pow
  have loop : ∀ (m q : Nat), 2 ^ kN < q + m → q ≤ 2 ^ kN → GG E X (cw E ad fl g a v tl) 0 0 4 [(0, .ref (ad 4)), (1, .int (nI i)), (2, .int (nI (inR i q))), (3, .int (nI q))] [] := by
    intro m
    induction m with
    | zero => intro q hm hq; omega
    | succ m ih =>
      intro q hm hq
      refine mg_iload_n C dX2_inputTable_4 rfl ?_
      refine mg_aload_n C dX2_inputTable_5 rfl ?_
      refine mg_get C inG_X2 fX2_64 (ci := 2) rfl rfl 4 rfl rfl dX2_inputTable_6 ?_
      refine mg_icmp_ge C 28 dX2_inputTable_9 (by decide) (fun h9 => ?_) (fun h9 => ?_)
      · have eq2 : q = 2 ^ kN := (by rcases Nat.lt_or_ge q (2 ^ kN) with h | h; exact absurd (by rw [h12] at h9; exact h9) (nI_ge h (by omega)); omega)
        subst eq2
        refine mg_iload_n C dX2_inputTable_28 rfl ?_
        exact mg_iret C hQ dX2_inputTable_29 (⟨rfl, rfl⟩)
      · have hlt : q < 2 ^ kN := (by rcases Nat.lt_or_ge q (2 ^ kN) with h | h; exact h; exact absurd (by rw [h12]; exact nI_le h (by omega)) h9)
        refine mg_iload_n C dX2_inputTable_12 rfl ?_
        refine mg_iload_n C dX2_inputTable_13 rfl ?_
        refine mg_iload_n C dX2_inputTable_14 rfl ?_
        refine mg_ishr C dX2_inputTable_15 ?_
        refine mg_iconst (v := 1) C dX2_inputTable_16 (by decide) ?_
        refine mg_iand C dX2_inputTable_17 ?_
        refine mg_iload_n C dX2_inputTable_18 rfl ?_
        refine mg_ishl C dX2_inputTable_19 ?_
        refine mg_ior C dX2_inputTable_20 ?_
        refine mg_istore_n C dX2_inputTable_21 rfl ?_
        refine mg_lve (lv' := [(0, _), (1, _), (2, _), (3, _)]) rfl ?_
        refine mg_iinc C dX2_inputTable_22 rfl rfl ?_
        refine mg_lve (lv' := [(0, _), (1, _), (2, _), (3, _)]) rfl ?_
        refine mg_goto C 4 dX2_inputTable_25 (by decide) ?_
        refine mg_lve (lv' := [(0, .ref (ad 4)), (1, .int (nI i)), (2, .int (nI (inR i (q + 1)))), (3, .int (nI (q + 1)))]) ?_ ?_
        · rw [nI_succ q]
          have e1 : nI (inR i q) ||| ((nI q >>> (nI i &&& 31) &&& 1) <<< (nI q &&& 31)) = nI (inR i (q + 1)) := by
            rw [ni_shr (by omega) (by omega), show (1 : Int32) = nI 1 from rfl, ni_and, ni_shl (by omega), ni_or]
            rfl
          rw [← e1]
          rfl
        · exact ih (q + 1) (by omega) (by omega)
  show GG E X (cw E ad fl g a v tl) 0 0 0 [(0, .ref (ad 4)), (1, .int (nI i))] []
  refine mg_iconst (v := 0) C dX2_inputTable_0 (by decide) ?_
  refine mg_istore_n C dX2_inputTable_1 rfl ?_
  refine mg_iconst (v := 0) C dX2_inputTable_2 (by decide) ?_
  refine mg_istore_n C dX2_inputTable_3 rfl ?_
  exact loop (2 ^ kN + 1) 0 (by omega) (by omega)
set_option maxHeartbeats 400000 in
set_option maxRecDepth 100000 in
theorem ct_X2_openState (E : En) (ad : Nat → Nat) (fl : Nat) (g : Nat → Int32) (a : Nat → Nat → Int32) (v : Nat → Int64) (tl : va_W) (kN sN x : Nat) (hk : KS kN sN) (hx : x < 65536) (h10 : g 10 = nI kN) (h11 : g 11 = nI sN) (h12 : g 12 = nI (2 ^ kN)) (h13 : g 13 = nI (Mk kN)) (hinp : ∀ i, i < kN → a 12 i = nI (inR i (2 ^ kN))) : Ct E mX2_openState 1 0 0 [.ref (ad 4), .int (nI x)] (cw E ad fl g a v tl) (fun o w => ∃ a1 : Nat → Nat → Int32, o = none ∧ (∀ c, c < sN → a1 12 c = nI (tabs kN x c)) ∧ (∀ j, j ≠ 12 → a1 j = a j) ∧ w = cw E ad fl g a1 v tl) := by
  refine Ct.of (by decide) (Nat.le_of_ble_eq_true rfl) (fun X C hQ hin => ?_)
  have C : Cx E X cX2_openState 3 RX2 none 1 40 0 0 := C
  have hk2 := hk
  obtain ⟨⟨hk1, hk3⟩, hks, hs5⟩ := hk2
  have h16 := sh_16 hk
  have hpp : 1 ≤ 2 ^ kN := Nat.one_le_two_pow
  have loop : ∀ (m c : Nat) (a1 : Nat → Nat → Int32), sN < c + m → kN ≤ c → c ≤ sN → (∀ j, j < c → a1 12 j = nI (tabs kN x j)) → (∀ j, j ≠ 12 → a1 j = a j) → GG E X (cw E ad fl g a1 v tl) 0 0 5 [(0, .ref (ad 4)), (1, .int (nI x)), (2, .int (nI c))] [] := by
    intro m
    induction m with
    | zero => intro c a1 hm hkc hc; omega
    | succ m ih =>
      intro c a1 hm hkc hc ht ho
      refine mg_iload_n C dX2_openState_5 rfl ?_
      refine mg_aload_n C dX2_openState_6 rfl ?_
      refine mg_get C inG_X2 fX2_61 (ci := 2) rfl rfl 4 rfl rfl dX2_openState_7 ?_
      refine mg_icmp_ge C 37 dX2_openState_10 (by decide) (fun hb10 => ?_) (fun hb10 => ?_)
      · have ec : c = sN := (by rcases Nat.lt_or_ge c sN with h | h; exact absurd (by rw [h11] at hb10; exact hb10) (nI_ge h (by omega)); omega)
        subst ec
        exact mg_vret C hQ dX2_openState_37 (⟨a1, rfl, ht, ho, rfl⟩)
      · have hlt : c < sN := (by rcases Nat.lt_or_ge c sN with h | h; exact h; exact absurd (by rw [h11]; exact nI_le h (by omega)) hb10)
        have hin2 : vp_in (nI c) 5 := vp_in_nI (by omega) (by decide)
        refine mg_aload_n C dX2_openState_13 rfl ?_
        refine mg_get C inG_X2 fX2_19 (ci := 2) rfl rfl 4 rfl rfl dX2_openState_14 ?_
        refine mg_iload_n C dX2_openState_17 rfl ?_
        refine mg_iload_n C dX2_openState_18 rfl ?_
        refine mg_aload_n C dX2_openState_19 rfl ?_
        refine mg_iload_n C dX2_openState_20 rfl ?_
        refine mg_callV C (ct_X2_shiftOf E _ _ _ _ _ _ kN _ h10 h12 hkc) oX2_86 4 rfl rfl rfl rfl rfl dX2_openState_21 (fun o21 w21 z21 => ?_)
        obtain ⟨rfl, rfl⟩ := z21
        refine mg_v ?_
        refine mg_ishr C dX2_openState_24 ?_
        refine mg_aload_n C dX2_openState_25 rfl ?_
        refine mg_get C inG_X2 fX2_70 (ci := 2) rfl rfl 4 rfl rfl dX2_openState_26 ?_
        refine mg_iand C dX2_openState_29 ?_
        refine mg_tos (w := .int (nI (tabs kN x c))) (by rw [h13, ni_shr (by omega) (by have h5 := sh_le hk hkc hlt; omega), ni_and, tabs, if_neg (by omega)]) ?_
        refine mg_iast C 1 rfl (hin2) dX2_openState_30 (ws' := (cw E ad fl g (ups a1 12 ((nI c) : Int32).toNatClampNeg (nI (tabs kN x c))) v tl)) rfl ?_
        refine mg_iinc C dX2_openState_31 rfl rfl ?_
        refine mg_lve (lv' := [(0, _), (1, _), (2, _)]) rfl ?_
        refine mg_goto C 5 dX2_openState_34 (by decide) ?_
        refine mg_lve (lv' := [(0, .ref (ad 4)), (1, .int (nI x)), (2, .int (nI (c + 1)))]) (by rw [nI_succ c]; rfl) ?_
        refine ih (c + 1) _ (by omega) (by omega) (by omega) (fun j hj => ?_) (fun j hj => ?_)
        · show upd (a1 12) _ _ j = _
          rw [nI_clamp (by omega)]
          by_cases hjc : j = c
          · rw [hjc]; exact pk_us
          · rw [pk_un hjc]; exact ht j (by omega)
        · rw [← ho j hj]; exact ups_n hj
  show GG E X (cw E ad fl g a v tl) 0 0 0 [(0, .ref (ad 4)), (1, .int (nI x))] []
  refine mg_aload_n C dX2_openState_0 rfl ?_
  refine mg_get C inG_X2 fX2_58 (ci := 2) rfl rfl 4 rfl rfl dX2_openState_1 ?_
  rw [h10]
  refine mg_istore_n C dX2_openState_4 rfl ?_
  exact loop (sN + 1) kN a (by omega) (Nat.le_refl _) hks (fun j hj => by rw [tabs, if_pos hj]; exact hinp j hj) (fun _ _ => rfl)
def fwi (r : Option Nat) : Int32 := match r with | some c => nI c | none => -1
theorem tabs_lt {k x c : Nat} (h : k ≤ 3) : tabs k x c < 256 := by
  unfold tabs
  by_cases hc : c < k
  · rw [if_pos hc]
    rcases (by omega : k = 1 ∨ k = 2 ∨ k = 3) with rfl | rfl | rfl
    · rw [show c = 0 by omega]; decide
    · rcases (by omega : c = 0 ∨ c = 1) with rfl | rfl <;> decide
    · rcases (by omega : c = 0 ∨ c = 1 ∨ c = 2) with rfl | rfl | rfl <;> decide
  · rw [if_neg hc]
    exact Nat.lt_of_le_of_lt Nat.and_le_right (mk_lt h)
set_option maxHeartbeats 400000 in
set_option maxRecDepth 100000 in
theorem ct_X2_cellWith (E : En) (ad : Nat → Nat) (fl : Nat) (g : Nat → Int32) (a : Nat → Nat → Int32) (v : Nat → Int64) (tl : va_W) (kN sN x w0 : Nat) (hk : KS kN sN) (hw0 : w0 < 256) (h11 : g 11 = nI sN) (ht : ∀ c, c < sN → a 12 c = nI (tabs kN x c)) : Ct E mX2_cellWith 0 0 0 [.ref (ad 4), .int (nI w0)] (cw E ad fl g a v tl) (fun o w => o = some (.int (fwi (fwc kN sN x w0 sN))) ∧ w = cw E ad fl g a v tl) := by
  refine Ct.of (by decide) (Nat.le_of_ble_eq_true rfl) (fun X C hQ hin => ?_)
  have C : Cx E X cX2_cellWith 3 RX2 (some .int) 0 0 0 0 := C
  have hk2 := hk
  obtain ⟨⟨hk1, hk3⟩, hks, hs5⟩ := hk2
  have loop : ∀ (m c : Nat), sN < c + m → c ≤ sN → fwc kN sN x w0 (sN - c) = fwc kN sN x w0 sN → GG E X (cw E ad fl g a v tl) 0 0 2 [(0, .ref (ad 4)), (1, .int (nI w0)), (2, .int (nI c))] [] := by
    intro m
    induction m with
    | zero => intro c hm hc; omega
    | succ m ih =>
      intro c hm hc hf
      have htl := tabs_lt (x := x) (c := c) hk3
      refine mg_iload_n C dX2_cellWith_2 rfl ?_
      refine mg_aload_n C dX2_cellWith_3 rfl ?_
      refine mg_get C inG_X2 fX2_61 (ci := 2) rfl rfl 4 rfl rfl dX2_cellWith_4 ?_
      refine mg_icmp_ge C 28 dX2_cellWith_7 (by decide) (fun h7 => ?_) (fun h7 => ?_)
      · have ec : c = sN := (by rcases Nat.lt_or_ge c sN with h | h; exact absurd (by rw [h11] at h7; exact h7) (nI_ge h (by omega)); omega)
        subst ec
        refine mg_iconst (v := (-1)) C dX2_cellWith_28 (by decide) ?_
        exact mg_iret C hQ dX2_cellWith_29 (⟨by rw [← hf, Nat.sub_self]; rfl, rfl⟩)
      · have hlt : c < sN := (by rcases Nat.lt_or_ge c sN with h | h; exact h; exact absurd (by rw [h11]; exact nI_le h (by omega)) h7)
        have hin2 : vp_in (nI c) 5 := vp_in_nI (by omega) (by decide)
        obtain ⟨m1, hm1⟩ : ∃ m1, sN - c = m1 + 1 := ⟨sN - c - 1, by omega⟩
        have ecs : sN - (m1 + 1) = c := by omega
        refine mg_aload_n C dX2_cellWith_10 rfl ?_
        refine mg_get C inG_X2 fX2_19 (ci := 2) rfl rfl 4 rfl rfl dX2_cellWith_11 ?_
        refine mg_iload_n C dX2_cellWith_14 rfl ?_
        refine mg_iald C 1 rfl (hin2) dX2_cellWith_15 ?_
        refine mg_tos (w := .int (nI (tabs kN x c))) (by rw [nI_clamp (by omega), ht c hlt]) ?_
        refine mg_iload_n C dX2_cellWith_16 rfl ?_
        refine mg_icmp_ne C 22 dX2_cellWith_17 (by decide) (fun h17 => ?_) (fun h17 => ?_)
        · refine mg_iinc C dX2_cellWith_22 rfl rfl ?_
          refine mg_lve (lv' := [(0, _), (1, _), (2, _)]) rfl ?_
          refine mg_goto C 2 dX2_cellWith_25 (by decide) ?_
          refine mg_lve (lv' := [(0, .ref (ad 4)), (1, .int (nI w0)), (2, .int (nI (c + 1)))]) (by rw [nI_succ c]; rfl) ?_
          refine ih (c + 1) (by omega) (by omega) ?_
          rw [← hf, hm1, fwc, ecs, if_neg (fun e => h17 (by rw [e]))]
          congr 1; omega
        · refine mg_iload_n C dX2_cellWith_20 rfl ?_
          exact mg_iret C hQ dX2_cellWith_21 (⟨by rw [← hf, hm1, fwc, ecs, if_pos ((nI_eq (by omega) (by omega)).mp h17)]; rfl, rfl⟩)
  show GG E X (cw E ad fl g a v tl) 0 0 0 [(0, .ref (ad 4)), (1, .int (nI w0))] []
  refine mg_iconst (v := 0) C dX2_cellWith_0 (by decide) ?_
  refine mg_istore_n C dX2_cellWith_1 rfl ?_
  exact loop (sN + 1) 0 (by omega) (by omega) rfl
theorem lv_tk {lv lv' : List (Nat × Value)} (n : Nat) (h : lv.take n = lv') : ∀ q ∈ lv', q ∈ lv := by
  subst h
  exact fun q hq => List.mem_of_mem_take hq
theorem pack8 : ∀ p, p < 5 → ∀ q, q < 5 → ∀ c, c < 5 → ((p <<< 6 ||| q <<< 3) ||| c) = 64 * p + 8 * q + c := by decide +kernel
theorem packI {p q c : Nat} (hp : p < 5) (hq : q < 5) (hc : c < 5) : nI p <<< ((6 : Int32) &&& 31) ||| nI q <<< ((3 : Int32) &&& 31) ||| nI c = nI (64 * p + 8 * q + c) := by
  have e6 : nI p <<< ((6 : Int32) &&& 31) = nI (p <<< 6) := ni_shl (n := 6) (by omega)
  have e3 : nI q <<< ((3 : Int32) &&& 31) = nI (q <<< 3) := ni_shl (n := 3) (by omega)
  rw [e6, e3, ni_or, ni_or, pack8 p hp q hq c hc]
theorem amt_t {B : Bs} {x f z t : Nat} (h : t < B.1) : t < (amt B x f z).2.1 ∧ (amt B x f z).2.2.1 t = B.2.1 t := by
  unfold amt
  by_cases h1 : sn B.1 B.2.1 x = true
  · rw [if_pos h1]; exact ⟨h, rfl⟩
  · rw [if_neg h1]
    by_cases h2 : 8000 ≤ B.1
    · rw [if_pos h2]; exact ⟨h, rfl⟩
    · rw [if_neg h2]; exact ⟨Nat.lt_succ_of_lt h, un_n (Nat.ne_of_lt h)⟩
theorem bi0 {q : Bool} (h : bi q = 0) : q = false := by
  cases q with
  | false => rfl
  | true => exact absurd h (by decide)
theorem bi1 {q : Bool} (h : ¬ bi q = 0) : q = true := by
  cases q with
  | true => rfl
  | false => exact absurd rfl h
theorem lpC_skip {k s t p q n : Nat} {B : Bs} (h : s - (n + 1) = p ∨ s - (n + 1) = q) : lpC k s t p q (n + 1) B = lpC k s t p q n B := by rw [lpC, if_pos h]
theorem lpC_go {k s t p q n : Nat} {B : Bs} (h : ¬ (s - (n + 1) = p ∨ s - (n + 1) = q)) (ha : (amt B (nxt k (B.2.1 t) p q (s - (n + 1))) t (64 * p + 8 * q + (s - (n + 1)))).1 = true) : lpC k s t p q (n + 1) B = lpC k s t p q n (amt B (nxt k (B.2.1 t) p q (s - (n + 1))) t (64 * p + 8 * q + (s - (n + 1)))).2 := by
  rw [lpC, if_neg h]
  generalize amt B (nxt k (B.2.1 t) p q (s - (n + 1))) t (64 * p + 8 * q + (s - (n + 1))) = r at ha ⊢
  obtain ⟨r1, r2⟩ := r
  dsimp only at ha
  subst ha
  rfl
theorem lpC_end {k s t p q n : Nat} {B : Bs} (h : ¬ (s - (n + 1) = p ∨ s - (n + 1) = q)) (ha : (amt B (nxt k (B.2.1 t) p q (s - (n + 1))) t (64 * p + 8 * q + (s - (n + 1)))).1 = false) : lpC k s t p q (n + 1) B = (false, (amt B (nxt k (B.2.1 t) p q (s - (n + 1))) t (64 * p + 8 * q + (s - (n + 1)))).2) := by
  rw [lpC, if_neg h]
  generalize amt B (nxt k (B.2.1 t) p q (s - (n + 1))) t (64 * p + 8 * q + (s - (n + 1))) = r at ha ⊢
  obtain ⟨r1, r2⟩ := r
  dsimp only at ha
  subst ha
  rfl
set_option maxHeartbeats 400000 in
set_option maxRecDepth 100000 in
theorem ct_X2_meetByActs (E : En) (ad : Nat → Nat) (fl : Nat) (g : Nat → Int32) (a : Nat → Nat → Int32) (v : Nat → Int64) (tl : va_W) (kN sN : Nat) (B : Bs) (t0 p q : Nat) (hk : KS kN sN) (hI : CI kN sN B g a v) (ht0 : t0 < B.1) (hp : p < sN) (hq : q < sN) (ht : ∀ c, c < sN → a 12 c = nI (tabs kN (B.2.1 t0) c)) : Ct E mX2_meetByActs 2 0 0 [.ref (ad 4), .int (nI t0), .int (nI p), .int (nI q)] (cw E ad fl g a v tl) (fun o w => ∃ (g1 : Nat → Int32) (a1 : Nat → Nat → Int32) (v1 : Nat → Int64), o = some (.int (bi (lpC kN sN t0 p q (sN - kN) B).1)) ∧ CI kN sN (lpC kN sN t0 p q (sN - kN) B).2 g1 a1 v1 ∧ (∀ i, i ≠ 14 → g1 i = g i) ∧ (∀ j, j ≠ 11 → a1 j = a j) ∧ w = cw E ad fl g1 a1 v1 tl) := by
  refine Ct.of (by decide) (Nat.le_of_ble_eq_true rfl) (fun X C hQ hin => ?_)
  have C : Cx E X cX2_meetByActs 7 RX2 (some .boolean) 2 80 0 0 := C
  have hk2 := hk
  obtain ⟨⟨hk1, hk3⟩, hks, hs5⟩ := hk2
  obtain ⟨⟨i10, i11, i12, i13, i14⟩, iB, i3, i4, i5⟩ := id hI
  have hcap := cap_le hk
  have h16 := sh_16 hk
  have hpp : 1 ≤ 2 ^ kN := Nat.one_le_two_pow
  have iB8 := iB.1
  have hinp : vp_in (nI p) 5 := vp_in_nI (by omega) (by decide)
  have hinq : vp_in (nI q) 5 := vp_in_nI (by omega) (by decide)
  obtain ⟨x, hxe⟩ : ∃ x, x = B.2.1 t0 := ⟨_, rfl⟩
  rw [← hxe] at ht
  have hxc : x < Cap kN sN := (by rw [hxe]; exact (iB.2 t0 ht0).1)
  have loop : ∀ (m c : Nat) (B1 : Bs) (g1 : Nat → Int32) (a1 : Nat → Nat → Int32) (v1 : Nat → Int64), sN < c + m → kN ≤ c → c ≤ sN → CI kN sN B1 g1 a1 v1 → t0 < B1.1 → B1.2.1 t0 = x → ((∀ i, i ≠ 14 → g1 i = g i) ∧ (∀ j, j ≠ 11 → a1 j = a j)) → lpC kN sN t0 p q (sN - c) B1 = lpC kN sN t0 p q (sN - kN) B → GG E X (cw E ad fl g1 a1 v1 tl) 0 0 28 [(0, .ref (ad 4)), (1, .int (nI t0)), (2, .int (nI p)), (3, .int (nI q)), (4, .int (nI (nei kN x p q))), (5, .int (nI c))] [] := by
    intro m
    induction m with
    | zero => intro c B1 g1 a1 v1 hm hkc hc; omega
    | succ m ih =>
      intro c B1 g1 a1 v1 hm hkc hc hI1 hB1t hB1x hfr hl1
      obtain ⟨⟨j10, j11, j12, j13, j14⟩, jB, j3, j4, j5⟩ := id hI1
      have jB8 := jB.1
      refine mg_iload C dX2_meetByActs_28 rfl ?_
      refine mg_aload_n C dX2_meetByActs_30 rfl ?_
      refine mg_get C inG_X2 fX2_61 (ci := 2) rfl rfl 4 rfl rfl dX2_meetByActs_31 ?_
      refine mg_icmp_ge C 109 dX2_meetByActs_34 (by decide) (fun h34 => ?_) (fun h34 => ?_)
      · have ec : c = sN := (by rcases Nat.lt_or_ge c sN with h | h; exact absurd (by rw [j11] at h34; exact h34) (nI_ge h (by omega)); omega)
        subst ec
        refine mg_iconst (v := 1) C dX2_meetByActs_109 (by decide) ?_
        exact mg_zret C hQ (rfl) dX2_meetByActs_110 (⟨g1, a1, v1, by rw [← hl1, Nat.sub_self]; rfl, by rw [← hl1, Nat.sub_self]; exact hI1, hfr.1, hfr.2, rfl⟩)
      · have hlt : c < sN := (by rcases Nat.lt_or_ge c sN with h | h; exact h; exact absurd (by rw [j11]; exact nI_le h (by omega)) h34)
        obtain ⟨m1, hm1⟩ : ∃ m1, sN - c = m1 + 1 := ⟨sN - c - 1, by omega⟩
        have ecs : sN - (m1 + 1) = c := by omega
        refine mg_iload C dX2_meetByActs_37 rfl ?_
        refine mg_iload_n C dX2_meetByActs_39 rfl ?_
        refine mg_icmp_eq C 103 dX2_meetByActs_40 (by decide) (fun h40 => ?_) (fun h40 => ?_)
        · refine mg_iinc C dX2_meetByActs_103 rfl rfl ?_
          refine mg_lve (lv' := [(0, _), (1, _), (2, _), (3, _), (4, _), (5, _)]) rfl ?_
          refine mg_goto C 28 dX2_meetByActs_106 (by decide) ?_
          refine mg_lve (lv' := [(0, .ref (ad 4)), (1, .int (nI t0)), (2, .int (nI p)), (3, .int (nI q)), (4, .int (nI (nei kN x p q))), (5, .int (nI (c + 1)))]) (by rw [nI_succ c]; rfl) ?_
          refine ih (c + 1) B1 _ _ _ (by omega) (by omega) (by omega) hI1 hB1t hB1x hfr ?_
          rw [← hl1, hm1, lpC_skip (by rw [ecs]; exact Or.inl ((nI_eq (by omega) (by omega)).mp h40))]
          congr 1; omega
        · refine mg_iload C dX2_meetByActs_43 rfl ?_
          refine mg_iload_n C dX2_meetByActs_45 rfl ?_
          refine mg_icmp_eq C 103 dX2_meetByActs_46 (by decide) (fun h46 => ?_) (fun h46 => ?_)
          · refine mg_iinc C dX2_meetByActs_103 rfl rfl ?_
            refine mg_lve (lv' := [(0, _), (1, _), (2, _), (3, _), (4, _), (5, _)]) rfl ?_
            refine mg_goto C 28 dX2_meetByActs_106 (by decide) ?_
            refine mg_lve (lv' := [(0, .ref (ad 4)), (1, .int (nI t0)), (2, .int (nI p)), (3, .int (nI q)), (4, .int (nI (nei kN x p q))), (5, .int (nI (c + 1)))]) (by rw [nI_succ c]; rfl) ?_
            refine ih (c + 1) B1 _ _ _ (by omega) (by omega) (by omega) hI1 hB1t hB1x hfr ?_
            rw [← hl1, hm1, lpC_skip (by rw [ecs]; exact Or.inr ((nI_eq (by omega) (by omega)).mp h46))]
            congr 1; omega
          · have hncp : ¬ c = p := fun e => h40 (by rw [e])
            have hncq : ¬ c = q := fun e => h46 (by rw [e])
            have hno : ¬ (sN - (m1 + 1) = p ∨ sN - (m1 + 1) = q) := (by rw [ecs]; exact fun h => h.elim hncp hncq)
            have hsh : (c - kN) * 2 ^ kN < 32 := (by have h5 := sh_le hk hkc hlt; omega)
            have hint0 : vp_in (nI t0) 8000 := vp_in_nI (by omega) (by decide)
            refine mg_aload_n C dX2_meetByActs_49 rfl ?_
            refine mg_get C inG_X2 fX2_9 (ci := 2) rfl rfl 4 rfl rfl dX2_meetByActs_50 ?_
            refine mg_iload_n C dX2_meetByActs_53 rfl ?_
            refine mg_lald C 3 rfl (hint0) dX2_meetByActs_54 ?_
            refine mg_callSN C (ct_X4_stateOf E _ _) oX2_36 rfl rfl rfl dX2_meetByActs_55 (fun o55 w55 z55 => ?_)
            obtain ⟨rfl, rfl⟩ := z55
            refine mg_v ?_
            refine mg_tos (w := .int (nI x)) (by rw [nI_clamp (by omega), j3 t0 hB1t, hB1x]; exact congrArg Value.int (pv_state (by omega) (jB.2 t0 hB1t).2.1 (jB.2 t0 hB1t).2.2.2)) ?_
            refine mg_aload_n C dX2_meetByActs_58 rfl ?_
            refine mg_get C inG_X2 fX2_70 (ci := 2) rfl rfl 4 rfl rfl dX2_meetByActs_59 ?_
            refine mg_aload_n C dX2_meetByActs_62 rfl ?_
            refine mg_iload C dX2_meetByActs_63 rfl ?_
            refine mg_callV C (ct_X2_shiftOf E _ _ _ _ _ _ kN _ j10 j12 hkc) oX2_86 4 rfl rfl rfl rfl rfl dX2_meetByActs_65 (fun o65 w65 z65 => ?_)
            obtain ⟨rfl, rfl⟩ := z65
            refine mg_v ?_
            refine mg_ishl C dX2_meetByActs_68 ?_
            refine mg_iconst (v := (-1)) C dX2_meetByActs_69 (by decide) ?_
            refine mg_ixor C dX2_meetByActs_70 ?_
            refine mg_iand C dX2_meetByActs_71 ?_
            refine mg_tos (w := .int (nI (x &&& ((Mk kN <<< ((c - kN) * 2 ^ kN)) ^^^ 4294967295)))) (by rw [j13, ni_shl hsh, ni_m1, ni_xor, ni_and]) ?_
            refine mg_istore C dX2_meetByActs_72 rfl ?_
            refine mg_lve (lv' := [(0, _), (1, _), (2, _), (3, _), (4, _), (5, _), (6, _)]) rfl ?_
            refine mg_aload_n C dX2_meetByActs_74 rfl ?_
            refine mg_iload C dX2_meetByActs_75 rfl ?_
            refine mg_iload C dX2_meetByActs_77 rfl ?_
            refine mg_aload_n C dX2_meetByActs_79 rfl ?_
            refine mg_iload C dX2_meetByActs_80 rfl ?_
            refine mg_callV C (ct_X2_shiftOf E _ _ _ _ _ _ kN _ j10 j12 hkc) oX2_86 4 rfl rfl rfl rfl rfl dX2_meetByActs_82 (fun o82 w82 z82 => ?_)
            obtain ⟨rfl, rfl⟩ := z82
            refine mg_v ?_
            refine mg_ishl C dX2_meetByActs_85 ?_
            refine mg_ior C dX2_meetByActs_86 ?_
            refine mg_tos (w := .int (nI (nxt kN (B1.2.1 t0) p q c))) (by rw [ni_shl hsh, ni_or, hB1x]; rfl) ?_
            refine mg_iload_n C dX2_meetByActs_87 rfl ?_
            refine mg_iload_n C dX2_meetByActs_88 rfl ?_
            refine mg_iload_n C dX2_meetByActs_89 rfl ?_
            refine mg_iload C dX2_meetByActs_90 rfl ?_
            refine mg_callSN C (ct_X4_packAct E _ _ _ _) oX2_92 rfl rfl rfl dX2_meetByActs_92 (fun o92 w92 z92 => ?_)
            obtain ⟨rfl, rfl⟩ := z92
            refine mg_v ?_
            refine mg_tos (w := .int (nI (64 * p + 8 * q + c))) (congrArg Value.int (packI (by omega) (by omega) (by omega))) ?_
            refine mg_callV C (ct_X2_meet E _ _ _ _ _ _ kN sN B1 _ _ _ hk hI1 (by rw [hB1x]; exact nxt_lt hk hxc hkc hlt) ⟨by omega, Or.inr hB1t⟩ (by omega)) oX2_82 4 rfl rfl rfl rfl rfl dX2_meetByActs_95 (fun o95 w95 z95 => ?_)
            obtain ⟨g2, a2, v2, rfl, hI2, hg2, ha2, rfl⟩ := z95
            refine mg_v ?_
            refine mg_if_ne C 103 dX2_meetByActs_98 (by decide) (fun h98 => ?_) (fun h98 => ?_)
            · refine mg_iinc C dX2_meetByActs_103 rfl rfl ?_
              refine mg_lve (lv' := [(0, _), (1, _), (2, _), (3, _), (4, _), (5, _), (6, _)]) rfl ?_
              refine mg_goto C 28 dX2_meetByActs_106 (by decide) ?_
              refine mg_lv (lv' := [(0, .ref (ad 4)), (1, .int (nI t0)), (2, .int (nI p)), (3, .int (nI q)), (4, .int (nI (nei kN x p q))), (5, .int (nI (c + 1)))]) (lv_tk 6 (by rw [nI_succ c]; rfl)) ?_
              have ha := bi1 h98
              obtain ⟨ht2, hx2⟩ := amt_t (x := nxt kN (B1.2.1 t0) p q c) (f := t0) (z := 64 * p + 8 * q + c) hB1t
              refine ih (c + 1) _ _ _ _ (by omega) (by omega) (by omega) hI2 ht2 (hx2.trans hB1x) ⟨fun i hi => (hg2 i hi).trans (hfr.1 i hi), fun j hj => (ha2 j hj).trans (hfr.2 j hj)⟩ ?_
              rw [← hl1, hm1, lpC_go hno (by rw [ecs]; exact ha), ecs]
              congr 1; omega
            · refine mg_iconst (v := 0) C dX2_meetByActs_101 (by decide) ?_
              exact mg_zret C hQ (rfl) dX2_meetByActs_102 (⟨_, _, _, by rw [← hl1, hm1, lpC_end hno (by rw [ecs]; exact bi0 h98)]; rfl, by rw [← hl1, hm1, lpC_end hno (by rw [ecs]; exact bi0 h98), ecs]; exact hI2, fun i hi => (hg2 i hi).trans (hfr.1 i hi), fun j hj => (ha2 j hj).trans (hfr.2 j hj), rfl⟩)
  refine mg_aload_n C dX2_meetByActs_0 rfl ?_
  refine mg_get C inG_X2 fX2_19 (ci := 2) rfl rfl 4 rfl rfl dX2_meetByActs_1 ?_
  refine mg_iload_n C dX2_meetByActs_4 rfl ?_
  refine mg_iald C 1 rfl (hinp) dX2_meetByActs_5 ?_
  refine mg_aload_n C dX2_meetByActs_6 rfl ?_
  refine mg_get C inG_X2 fX2_19 (ci := 2) rfl rfl 4 rfl rfl dX2_meetByActs_7 ?_
  refine mg_iload_n C dX2_meetByActs_10 rfl ?_
  refine mg_iald C 1 rfl (hinq) dX2_meetByActs_11 ?_
  refine mg_ior C dX2_meetByActs_12 ?_
  refine mg_iconst (v := (-1)) C dX2_meetByActs_13 (by decide) ?_
  refine mg_ixor C dX2_meetByActs_14 ?_
  refine mg_aload_n C dX2_meetByActs_15 rfl ?_
  refine mg_get C inG_X2 fX2_70 (ci := 2) rfl rfl 4 rfl rfl dX2_meetByActs_16 ?_
  refine mg_iand C dX2_meetByActs_19 ?_
  refine mg_tos (w := .int (nI (nei kN x p q))) (by rw [nI_clamp (by omega), nI_clamp (by omega), ht p hp, ht q hq, ni_or, ni_m1, ni_xor, i13, ni_and]; rfl) ?_
  refine mg_istore C dX2_meetByActs_20 rfl ?_
  refine mg_lve (lv' := [(0, _), (1, _), (2, _), (3, _), (4, _)]) rfl ?_
  refine mg_aload_n C dX2_meetByActs_22 rfl ?_
  refine mg_get C inG_X2 fX2_58 (ci := 2) rfl rfl 4 rfl rfl dX2_meetByActs_23 ?_
  refine mg_tos (w := .int (nI kN)) (congrArg Value.int i10) ?_
  refine mg_istore C dX2_meetByActs_26 rfl ?_
  refine mg_lve (lv' := [(0, _), (1, _), (2, _), (3, _), (4, _), (5, _)]) rfl ?_
  exact loop (sN + 1) kN B g a v (by omega) (Nat.le_refl _) hks hI ht0 hxe.symm ⟨fun _ _ => rfl, fun _ _ => rfl⟩ rfl
def thn (r : Bool × Bs) (f : Bs → Bool × Bs) : Bool × Bs := match r with
  | (false, B1) => (false, B1)
  | (true, B1) => f B1
theorem thn_t {r : Bool × Bs} {f : Bs → Bool × Bs} (h : r.1 = true) : thn r f = f r.2 := by
  obtain ⟨r1, r2⟩ := r
  dsimp only at h
  subst h
  rfl
theorem thn_f {r : Bool × Bs} {f : Bs → Bool × Bs} (h : r.1 = false) : thn r f = (false, r.2) := by
  obtain ⟨r1, r2⟩ := r
  dsimp only at h
  subst h
  rfl
theorem lpB_s {k s t p n : Nat} {B : Bs} : lpB k s t p (n + 1) B = thn (lpC k s t p (s - (n + 1)) (s - k) B) (lpB k s t p n) := rfl
theorem lpA_s {k s t n : Nat} {B : Bs} : lpA k s t (n + 1) B = thn (lpB k s t (s - (n + 1)) (n + 1) B) (lpA k s t n) := rfl
theorem thn_thn {r : Bool × Bs} {f h : Bs → Bool × Bs} : thn (thn r f) h = thn r (fun B => thn (f B) h) := by
  obtain ⟨r1, r2⟩ := r
  cases r1 <;> rfl
theorem lpC_t {k s t p q : Nat} : ∀ (n : Nat) (B : Bs), t < B.1 → t < (lpC k s t p q n B).2.1 ∧ (lpC k s t p q n B).2.2.1 t = B.2.1 t := by
  intro n
  induction n with
  | zero => intro B h; exact ⟨h, rfl⟩
  | succ n ih =>
    intro B h
    by_cases h1 : s - (n + 1) = p ∨ s - (n + 1) = q
    · rw [lpC_skip h1]; exact ih B h
    · have h2 := amt_t (x := nxt k (B.2.1 t) p q (s - (n + 1))) (f := t) (z := 64 * p + 8 * q + (s - (n + 1))) h
      cases ha : (amt B (nxt k (B.2.1 t) p q (s - (n + 1))) t (64 * p + 8 * q + (s - (n + 1)))).1 with
      | true =>
        rw [lpC_go h1 ha]
        obtain ⟨h3, h4⟩ := ih _ h2.1
        exact ⟨h3, h4.trans h2.2⟩
      | false => rw [lpC_end h1 ha]; exact h2
theorem lvk2 {p0 p1 p2 p3 : Value} {q : Nat × Value} (h : q ∈ ([(0, p0), (1, p1), (2, p2)] : List (Nat × Value))) : q ∈ ([(0, p0), (1, p1), (2, p2), (3, p3)] : List (Nat × Value)) := by
  simp only [List.mem_cons, List.not_mem_nil, or_false] at h ⊢
  rcases h with h | h | h
  · exact Or.inl h
  · exact Or.inr (Or.inl h)
  · exact Or.inr (Or.inr (Or.inl h))
set_option maxHeartbeats 400000 in
set_option maxRecDepth 100000 in
theorem ct_X2_meetAllFrom (E : En) (ad : Nat → Nat) (fl : Nat) (g : Nat → Int32) (a : Nat → Nat → Int32) (v : Nat → Int64) (tl : va_W) (kN sN : Nat) (B : Bs) (t0 : Nat) (hk : KS kN sN) (hI : CI kN sN B g a v) (ht0 : t0 < B.1) (ht : ∀ c, c < sN → a 12 c = nI (tabs kN (B.2.1 t0) c)) : Ct E mX2_meetAllFrom 3 0 0 [.ref (ad 4), .int (nI t0)] (cw E ad fl g a v tl) (fun o w => ∃ (g1 : Nat → Int32) (a1 : Nat → Nat → Int32) (v1 : Nat → Int64), o = some (.int (bi (lpA kN sN t0 sN B).1)) ∧ CI kN sN (lpA kN sN t0 sN B).2 g1 a1 v1 ∧ (∀ i, i ≠ 14 → g1 i = g i) ∧ (∀ j, j ≠ 11 → a1 j = a j) ∧ w = cw E ad fl g1 a1 v1 tl) := by
  refine Ct.of (by decide) (Nat.le_of_ble_eq_true rfl) (fun X C hQ hin => ?_)
  have C : Cx E X cX2_meetAllFrom 4 RX2 (some .boolean) 3 120 0 0 := C
  have hk2 := hk
  obtain ⟨⟨hk1, hk3⟩, hks, hs5⟩ := hk2
  obtain ⟨x, hxe⟩ : ∃ x, x = B.2.1 t0 := ⟨_, rfl⟩
  rw [← hxe] at ht
  have inner : ∀ (p : Nat), p < sN → ∀ (K : Bs → Bool × Bs), (∀ (B1 : Bs) (g1 : Nat → Int32) (a1 : Nat → Nat → Int32) (v1 : Nat → Int64), CI kN sN B1 g1 a1 v1 → t0 < B1.1 → B1.2.1 t0 = x → ((∀ i, i ≠ 14 → g1 i = g i) ∧ (∀ j, j ≠ 11 → a1 j = a j)) → K B1 = lpA kN sN t0 sN B → GG E X (cw E ad fl g1 a1 v1 tl) 0 0 38 [(0, .ref (ad 4)), (1, .int (nI t0)), (2, .int (nI p)), (3, .int (nI sN))] []) → ∀ (m q : Nat) (B1 : Bs) (g1 : Nat → Int32) (a1 : Nat → Nat → Int32) (v1 : Nat → Int64), sN < q + m → q ≤ sN → CI kN sN B1 g1 a1 v1 → t0 < B1.1 → B1.2.1 t0 = x → ((∀ i, i ≠ 14 → g1 i = g i) ∧ (∀ j, j ≠ 11 → a1 j = a j)) → thn (lpB kN sN t0 p (sN - q) B1) K = lpA kN sN t0 sN B → GG E X (cw E ad fl g1 a1 v1 tl) 0 0 12 [(0, .ref (ad 4)), (1, .int (nI t0)), (2, .int (nI p)), (3, .int (nI q))] [] := by
    intro p hpS K out m
    induction m with
    | zero => intro q B1 g1 a1 v1 hm hq; omega
    | succ m ih =>
      intro q B1 g1 a1 v1 hm hq hI1 hB1t hB1x hfr hl1
      obtain ⟨⟨j10, j11, j12, j13, j14⟩, jB, j3, j4, j5⟩ := id hI1
      refine mg_iload_n C dX2_meetAllFrom_12 rfl ?_
      refine mg_aload_n C dX2_meetAllFrom_13 rfl ?_
      refine mg_get C inG_X2 fX2_61 (ci := 2) rfl rfl 4 rfl rfl dX2_meetAllFrom_14 ?_
      refine mg_icmp_ge C 38 dX2_meetAllFrom_17 (by decide) (fun h17 => ?_) (fun h17 => ?_)
      · have ec : q = sN := (by rcases Nat.lt_or_ge q sN with h | h; exact absurd (by rw [j11] at h17; exact h17) (nI_ge h (by omega)); omega)
        subst ec
        exact out B1 g1 a1 v1 hI1 hB1t hB1x hfr (by rw [← hl1, Nat.sub_self]; rfl)
      · have hlt : q < sN := (by rcases Nat.lt_or_ge q sN with h | h; exact h; exact absurd (by rw [j11]; exact nI_le h (by omega)) h17)
        obtain ⟨m1, hm1⟩ : ∃ m1, sN - q = m1 + 1 := ⟨sN - q - 1, by omega⟩
        have ecs : sN - (m1 + 1) = q := by omega
        refine mg_aload_n C dX2_meetAllFrom_20 rfl ?_
        refine mg_iload_n C dX2_meetAllFrom_21 rfl ?_
        refine mg_iload_n C dX2_meetAllFrom_22 rfl ?_
        refine mg_iload_n C dX2_meetAllFrom_23 rfl ?_
        refine mg_callV C (ct_X2_meetByActs E _ _ _ _ _ _ kN sN B1 _ _ _ hk hI1 hB1t hpS hlt (by intro c hc; rw [hfr.2 12 (by decide), hB1x]; exact ht c hc)) oX2_89 4 rfl rfl rfl rfl rfl dX2_meetAllFrom_24 (fun o24 w24 z24 => ?_)
        obtain ⟨g2, a2, v2, rfl, hI2, hg2, ha2, rfl⟩ := z24
        obtain ⟨ht2, hx2⟩ := lpC_t (k := kN) (s := sN) (p := p) (q := q) (sN - kN) B1 hB1t
        refine mg_v ?_
        refine mg_if_ne C 32 dX2_meetAllFrom_27 (by decide) (fun h27 => ?_) (fun h27 => ?_)
        · refine mg_iinc C dX2_meetAllFrom_32 rfl rfl ?_
          refine mg_lve (lv' := [(0, _), (1, _), (2, _), (3, _)]) rfl ?_
          refine mg_goto C 12 dX2_meetAllFrom_35 (by decide) ?_
          refine mg_lve (lv' := [(0, .ref (ad 4)), (1, .int (nI t0)), (2, .int (nI p)), (3, .int (nI (q + 1)))]) (by rw [nI_succ q]; rfl) ?_
          refine ih (q + 1) _ _ _ _ (by omega) (by omega) hI2 ht2 (hx2.trans hB1x) ⟨fun i hi => (hg2 i hi).trans (hfr.1 i hi), fun j hj => (ha2 j hj).trans (hfr.2 j hj)⟩ ?_
          rw [← hl1, hm1, lpB_s, ecs, thn_t (bi1 h27)]
          rw [show sN - (q + 1) = m1 by omega]
        · refine mg_iconst (v := 0) C dX2_meetAllFrom_30 (by decide) ?_
          exact mg_zret C hQ (rfl) dX2_meetAllFrom_31 (⟨_, _, _, by rw [← hl1, hm1, lpB_s, ecs, thn_f (bi0 h27)]; rfl, by rw [← hl1, hm1, lpB_s, ecs, thn_f (bi0 h27)]; exact hI2, fun i hi => (hg2 i hi).trans (hfr.1 i hi), fun j hj => (ha2 j hj).trans (hfr.2 j hj), rfl⟩)
  have loop : ∀ (m p : Nat) (B1 : Bs) (g1 : Nat → Int32) (a1 : Nat → Nat → Int32) (v1 : Nat → Int64), sN < p + m → p ≤ sN → CI kN sN B1 g1 a1 v1 → t0 < B1.1 → B1.2.1 t0 = x → ((∀ i, i ≠ 14 → g1 i = g i) ∧ (∀ j, j ≠ 11 → a1 j = a j)) → lpA kN sN t0 (sN - p) B1 = lpA kN sN t0 sN B → GG E X (cw E ad fl g1 a1 v1 tl) 0 0 2 [(0, .ref (ad 4)), (1, .int (nI t0)), (2, .int (nI p))] [] := by
    intro m
    induction m with
    | zero => intro p B1 g1 a1 v1 hm hp; omega
    | succ m ih =>
      intro p B1 g1 a1 v1 hm hp hI1 hB1t hB1x hfr hl1
      obtain ⟨⟨j10, j11, j12, j13, j14⟩, jB, j3, j4, j5⟩ := id hI1
      refine mg_iload_n C dX2_meetAllFrom_2 rfl ?_
      refine mg_aload_n C dX2_meetAllFrom_3 rfl ?_
      refine mg_get C inG_X2 fX2_61 (ci := 2) rfl rfl 4 rfl rfl dX2_meetAllFrom_4 ?_
      refine mg_icmp_ge C 44 dX2_meetAllFrom_7 (by decide) (fun h7 => ?_) (fun h7 => ?_)
      · have ec : p = sN := (by rcases Nat.lt_or_ge p sN with h | h; exact absurd (by rw [j11] at h7; exact h7) (nI_ge h (by omega)); omega)
        subst ec
        refine mg_iconst (v := 1) C dX2_meetAllFrom_44 (by decide) ?_
        exact mg_zret C hQ (rfl) dX2_meetAllFrom_45 (⟨g1, a1, v1, by rw [← hl1, Nat.sub_self]; rfl, by rw [← hl1, Nat.sub_self]; exact hI1, hfr.1, hfr.2, rfl⟩)
      · have hlt : p < sN := (by rcases Nat.lt_or_ge p sN with h | h; exact h; exact absurd (by rw [j11]; exact nI_le h (by omega)) h7)
        obtain ⟨m1, hm1⟩ : ∃ m1, sN - p = m1 + 1 := ⟨sN - p - 1, by omega⟩
        have ecs : sN - (m1 + 1) = p := by omega
        refine mg_iload_n C dX2_meetAllFrom_10 rfl ?_
        refine mg_istore_n C dX2_meetAllFrom_11 rfl ?_
        refine mg_lve (lv' := [(0, _), (1, _), (2, _), (3, _)]) rfl ?_
        refine inner p hlt (lpA kN sN t0 m1) (fun B2 g2 a2 v2 hI2 hB2t hB2x hfr2 hl2 => ?_) (sN + 1) p B1 g1 a1 v1 (by omega) (by omega) hI1 hB1t hB1x hfr (by rw [← hl1, hm1, lpA_s, ecs])
        refine mg_iinc C dX2_meetAllFrom_38 rfl rfl ?_
        refine mg_goto C 2 dX2_meetAllFrom_41 (by decide) ?_
        refine mg_lv (lv' := [(0, .ref (ad 4)), (1, .int (nI t0)), (2, .int (nI (p + 1)))]) (by rw [nI_succ p]; intro z hz; exact lvk2 hz) ?_
        refine ih (p + 1) B2 g2 a2 v2 (by omega) (by omega) hI2 hB2t hB2x hfr2 ?_
        rw [← hl2]
        congr 1; omega
  show GG E X (cw E ad fl g a v tl) 0 0 0 [(0, .ref (ad 4)), (1, .int (nI t0))] []
  refine mg_iconst (v := 0) C dX2_meetAllFrom_0 (by decide) ?_
  refine mg_istore_n C dX2_meetAllFrom_1 rfl ?_
  exact loop (sN + 1) 0 B g a v (by omega) (by omega) hI ht0 hxe.symm ⟨fun _ _ => rfl, fun _ _ => rfl⟩ rfl
