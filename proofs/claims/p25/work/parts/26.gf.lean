set_option maxHeartbeats 400000 in
set_option maxRecDepth 100000 in
theorem cw_X0_takeAnew (E : En) (ad : Nat → Nat) (fl : Nat) (g : Nat → Int32) (a : Nat → Nat → Int32) (v : Nat → Int64) (tl : va_W) (R Cc : Nat) (d0 : g 0 = nI R) (hR : R ≤ 8) (d1 : g 1 = nI Cc) (hC : Cc ≤ 24) : Ct E mX0_takeAnew 1 0 0 [.ref (ad 7)] (cw E ad fl g a v tl) (fun o w => ∃ a1 : Nat → Nat → Int32, o = none ∧ (a1 1 = a 1 ∧ a1 3 = a 3 ∧ a1 4 = a 4 ∧ a1 5 = a 5 ∧ a1 13 = a 13) ∧ w = cw E ad fl (ug g 9 1) a1 v tl) := by
  refine Ct.of (by decide) (Nat.le_of_ble_eq_true rfl) (fun X C hQ hin => ?_)
  have C : Cx E X cX0_takeAnew 6 RX0 none 1 40 0 0 := C
  have inner : ∀ (i : Nat), i < R → ∀ (a1 : Nat → Nat → Int32), (∀ (y z : Int32), GG E X (cw E ad fl g a1 v tl) 0 0 73 [(0, .ref (ad 7)), (1, .int (nI i)), (2, .int y), (3, .int z), (4, .int (nI Cc))] []) → ∀ (m j : Nat) (y z : Int32), Cc < j + m → j ≤ Cc → GG E X (cw E ad fl g a1 v tl) 0 0 20 [(0, .ref (ad 7)), (1, .int (nI i)), (2, .int y), (3, .int z), (4, .int (nI j))] [] := by
    intro i hiR a1 out m
    induction m with
    | zero => intro j y z hm hj; omega
    | succ m ih =>
      intro j y z hm hj
      refine mg_iload C dX0_takeAnew_20 rfl ?_
      refine mg_aload_n C dX0_takeAnew_22 rfl ?_
      refine mg_get C inG_X0 fX0_18 (ci := 0) rfl rfl 7 rfl rfl dX0_takeAnew_23 ?_
      refine mg_getN C inG_X1 fX0_28 (ci := 1) rfl rfl 18 rfl rfl dX0_takeAnew_26 ?_
      refine mg_icmp_ge C 73 dX0_takeAnew_29 (by decide) (fun h29 => ?_) (fun h29 => ?_)
      · have hge : j = Cc := (by rcases Nat.lt_or_ge j Cc with h | h; exact absurd (by rw [d1] at h29; exact h29) (nI_ge h (by omega)); omega)
        subst hge
        refine mg_lv (lv' := [(0, _), (1, _), (2, _), (3, _), (4, _)]) (lv_tk 5 rfl) ?_
        exact out y z
      · have hlt : j < Cc := (by rcases Nat.lt_or_ge j Cc with h | h; exact h; exact absurd (by rw [d1]; exact nI_le h (by omega)) h29)
        have hin9 : vp_in (nI i * 24 + nI j) 192 := (by rw [pl_eq]; exact vp_in_nI (by omega) (by decide))
        refine mg_aload_n C dX0_takeAnew_32 rfl ?_
        refine mg_get C inG_X0 fX0_18 (ci := 0) rfl rfl 7 rfl rfl dX0_takeAnew_33 ?_
        refine mg_getN C inG_X1 fX0_31 (ci := 1) rfl rfl 18 rfl rfl dX0_takeAnew_36 ?_
        refine mg_aload_n C dX0_takeAnew_39 rfl ?_
        refine mg_get C inG_X0 fX0_18 (ci := 0) rfl rfl 7 rfl rfl dX0_takeAnew_40 ?_
        refine mg_iload_n C dX0_takeAnew_43 rfl ?_
        refine mg_iload C dX0_takeAnew_44 rfl ?_
        refine mg_callVN C (ct_X1_place E _ _ _ _ _ _ _ _) oX0_34 18 rfl rfl rfl rfl rfl dX0_takeAnew_46 (fun o46 w46 z46 => ?_)
        obtain ⟨rfl, rfl⟩ := z46
        refine mg_v ?_
        refine mg_iald C 17 rfl (hin9) dX0_takeAnew_49 ?_
        refine mg_istore C dX0_takeAnew_50 rfl ?_
        refine mg_lve (lv' := [(0, _), (1, _), (2, _), (3, _), (4, _), (5, _)]) rfl ?_
        refine mg_iload_n C dX0_takeAnew_52 rfl ?_
        refine mg_iload C dX0_takeAnew_53 rfl ?_
        refine mg_iadd C dX0_takeAnew_55 ?_
        refine mg_istore_n C dX0_takeAnew_56 rfl ?_
        refine mg_lve (lv' := [(0, _), (1, _), (2, _), (3, _), (4, _), (5, _)]) rfl ?_
        refine mg_iload_n C dX0_takeAnew_57 rfl ?_
        refine mg_iload C dX0_takeAnew_58 rfl ?_
        refine mg_iconst (v := 1) C dX0_takeAnew_60 (by decide) ?_
        refine mg_iadd C dX0_takeAnew_61 ?_
        refine mg_iload C dX0_takeAnew_62 rfl ?_
        refine mg_imul C dX0_takeAnew_64 ?_
        refine mg_iadd C dX0_takeAnew_65 ?_
        refine mg_istore_n C dX0_takeAnew_66 rfl ?_
        refine mg_lve (lv' := [(0, _), (1, _), (2, _), (3, _), (4, _), (5, _)]) rfl ?_
        refine mg_iinc C dX0_takeAnew_67 rfl rfl ?_
        refine mg_lve (lv' := [(0, _), (1, _), (2, _), (3, _), (4, _), (5, _)]) rfl ?_
        refine mg_goto C 20 dX0_takeAnew_70 (by decide) ?_
        refine mg_lv (lv' := [(0, _), (1, _), (2, _), (3, _), (4, _)]) (lv_tk 5 rfl) ?_
        rw [show nI j + Int32.ofInt 1 = nI (j + 1) from (nI_succ j).symm]
        exact ih (j + 1) _ _ (by omega) (by omega)
  have loop : ∀ (m i : Nat) (a1 : Nat → Nat → Int32), R < i + m → i ≤ R → (a1 1 = a 1 ∧ a1 3 = a 3 ∧ a1 4 = a 4 ∧ a1 5 = a 5 ∧ a1 13 = a 13) → GG E X (cw E ad fl g a1 v tl) 0 0 2 [(0, .ref (ad 7)), (1, .int (nI i))] [] := by
    intro m
    induction m with
    | zero => intro i a1 hm hi; omega
    | succ m ih =>
      intro i a1 hm hi hk
      refine mg_iload_n C dX0_takeAnew_2 rfl ?_
      refine mg_aload_n C dX0_takeAnew_3 rfl ?_
      refine mg_get C inG_X0 fX0_18 (ci := 0) rfl rfl 7 rfl rfl dX0_takeAnew_4 ?_
      refine mg_getN C inG_X1 fX0_22 (ci := 1) rfl rfl 18 rfl rfl dX0_takeAnew_7 ?_
      refine mg_icmp_ge C 99 dX0_takeAnew_10 (by decide) (fun h10 => ?_) (fun h10 => ?_)
      · refine mg_aload_n C dX0_takeAnew_99 rfl ?_
        refine mg_iconst (v := 1) C dX0_takeAnew_100 (by decide) ?_
        refine mg_put C inG_X0 fX0_38 (ci := 0) rfl rfl tyX0 tyX0_ok nmX0 rfl 7 rfl rfl rfl rfl dX0_takeAnew_101 (ws' := (cw E ad fl (ug g 9 1) a1 v tl)) rfl ?_
        exact mg_vret C hQ dX0_takeAnew_104 (⟨a1, rfl, hk, rfl⟩)
      · have hlt : i < R := (by rcases Nat.lt_or_ge i R with h | h; exact h; exact absurd (by rw [d0]; exact nI_le h (by omega)) h10)
        have hin8 : vp_in (nI i) 8 := vp_in_nI (by omega) (by decide)
        refine mg_iconst (v := 0) C dX0_takeAnew_13 (by decide) ?_
        refine mg_istore_n C dX0_takeAnew_14 rfl ?_
        refine mg_lve (lv' := [(0, _), (1, _), (2, _)]) rfl ?_
        refine mg_iconst (v := 0) C dX0_takeAnew_15 (by decide) ?_
        refine mg_istore_n C dX0_takeAnew_16 rfl ?_
        refine mg_lve (lv' := [(0, _), (1, _), (2, _), (3, _)]) rfl ?_
        refine mg_iconst (v := 0) C dX0_takeAnew_17 (by decide) ?_
        refine mg_istore C dX0_takeAnew_18 rfl ?_
        refine mg_lve (lv' := [(0, _), (1, _), (2, _), (3, _), (4, _)]) rfl ?_
        refine inner i hlt a1 (fun y1 z1 => ?_) (Cc + 1) 0 _ _ (by omega) (by omega)
        refine mg_aload_n C dX0_takeAnew_73 rfl ?_
        refine mg_get C inG_X0 fX0_9 (ci := 0) rfl rfl 7 rfl rfl dX0_takeAnew_74 ?_
        refine mg_iload_n C dX0_takeAnew_77 rfl ?_
        refine mg_iload_n C dX0_takeAnew_78 rfl ?_
        refine mg_bipush (v := 97) C dX0_takeAnew_79 (by decide) ?_
        refine mg_irem C dX0_takeAnew_81 (by decide) ?_
        refine mg_topi (fun zv82 ezv82 => ?_)
        refine mg_iast C 6 rfl (hin8) dX0_takeAnew_82 (ws' := (cw E ad fl g (ups a1 9 ((nI i) : Int32).toNatClampNeg zv82) v tl)) rfl ?_
        refine mg_aload_n C dX0_takeAnew_83 rfl ?_
        refine mg_get C inG_X0 fX0_15 (ci := 0) rfl rfl 7 rfl rfl dX0_takeAnew_84 ?_
        refine mg_iload_n C dX0_takeAnew_87 rfl ?_
        refine mg_iload_n C dX0_takeAnew_88 rfl ?_
        refine mg_bipush (v := 97) C dX0_takeAnew_89 (by decide) ?_
        refine mg_irem C dX0_takeAnew_91 (by decide) ?_
        refine mg_topi (fun zv92 ezv92 => ?_)
        refine mg_iast C 5 rfl (hin8) dX0_takeAnew_92 (ws' := (cw E ad fl g (ups (ups a1 9 ((nI i) : Int32).toNatClampNeg zv82) 10 ((nI i) : Int32).toNatClampNeg zv92) v tl)) rfl ?_
        refine mg_iinc C dX0_takeAnew_93 rfl rfl ?_
        refine mg_lve (lv' := [(0, _), (1, _), (2, _), (3, _), (4, _)]) rfl ?_
        refine mg_goto C 2 dX0_takeAnew_96 (by decide) ?_
        refine mg_lv (lv' := [(0, _), (1, _)]) (lv_tk 2 rfl) ?_
        rw [show nI i + Int32.ofInt 1 = nI (i + 1) from (nI_succ i).symm]
        exact ih (i + 1) _ (by omega) (by omega) hk
  refine mg_iconst (v := 0) C dX0_takeAnew_0 (by decide) ?_
  refine mg_istore_n C dX0_takeAnew_1 rfl ?_
  refine mg_lve (lv' := [(0, _), (1, _)]) rfl ?_
  exact loop (R + 1) 0 a (by omega) (by omega) ⟨rfl, rfl, rfl, rfl, rfl⟩
set_option maxHeartbeats 400000 in
set_option maxRecDepth 100000 in
theorem cv_seal (E : En) (ad : Nat → Nat) (fl : Nat) (g : Nat → Int32) (a : Nat → Nat → Int32) (v : Nat → Int64) (tl : va_W)  (hV : CV fl g a) : Ct E mX4_seal 2 0 0 [.ref (ad 19)] (cw E ad fl g a v tl) (fun o w => ∃ (ad1 : Nat → Nat) (fl1 : Nat) (g1 : Nat → Int32) (a1 : Nat → Nat → Int32) (v1 : Nat → Int64), o = some (.int (1)) ∧ Sh (ug g 9 1) a g1 a1 ∧ CV fl1 g1 a1 ∧ ad1 19 = ad 19 ∧ w = cw E ad1 fl1 g1 a1 v1 tl) := by
  refine Ct.of (by decide) (Nat.le_of_ble_eq_true rfl) (fun X C hQ hin => ?_)
  have C : Cx E X cX4_seal 1 RX4 (some .int) 2 80 0 0 := C
  obtain ⟨R, Cc, T, n, m, D, F, ⟨⟨d0, d0a, d0b⟩, ⟨d1, d1a, d1b⟩, ⟨d2, d2a, d2b⟩, ⟨d4, d4a⟩, d5, ⟨d6, d6a⟩, dcm, dn0, dn1⟩, ⟨dF, dF1, dF2⟩, drow, dout⟩ := id hV.1
  refine mg_aload_n C dX4_seal_0 rfl ?_
  refine mg_get C inG_X4 fX4_28 (ci := 4) rfl rfl 19 rfl rfl dX4_seal_1 ?_
  refine mg_callVN C (cw_X0_takeAnew E _ _ _ _ _ _ R Cc d0 d0b d1 d1b) oX4_145 7 rfl rfl rfl rfl rfl dX4_seal_4 (fun o4 w4 z4 => ?_)
  obtain ⟨a2, rfl, hk, rfl⟩ := z4
  refine mg_v0 ?_
  refine mg_iconst (v := 1) C dX4_seal_7 (by decide) ?_
  exact mg_iret C hQ dX4_seal_8 (⟨ad, fl, ug g 9 1, a2, v, rfl, KP.sh hk, (KP.cv hV hk).g9, rfl, rfl⟩)
theorem Met.ofWF {l : Launch} {y : MethodName} {ws ws' : List Cond} {rm : Room} {Pc : Array Value → State → Prop} {Qc : Array Value → State → Outcome → State → Prop} {mc ms : Nat} {free : Addr → Prop} {cc : ByteArray} {maxL : Nat} {ret : Option FieldType}
    (hy : plainFor y = true) (hw : ws = Cond.code y cc maxL ret :: ws')
    (body : ∀ p e s m args below meth c s₁, BodyLoose p l y (headSpec ws rm) cc maxL ret e s m args below meth c s₁ → c.maxLocals = maxL → Pc args s →
      W p l e (headSpec ws rm).room s m args below meth c s.heap [] 0 0 (MQ below Qc args s mc ms free) (entryFrame m args maxL)) : Met l y ws rm Pc Qc mc ms free := by
  refine MetFree.of_bodySF (code := cc) (maxLocals := maxL) (ret := ret) hy ?_ ?_
  · intro args s m h hn
    have hc := atoms_spec (ws := ws) h (Cond.code y cc maxL ret) (by rw [hw]; exact List.mem_cons_self)
    obtain ⟨meth, c, q⟩ := Cond.code_spec hn hc
    exact ⟨meth, c, q.1, q.2.1, q.2.2.1, q.2.2.2.1, q.2.2.2.2.1, q.2.2.2.2.2.1⟩
  · intro p e s m args below meth c s₁ B hml hP _
    have he : s₁.heap = s.heap := by rw [B.state]; rfl
    obtain ⟨t, a1, o, b1, b2, b3, b4⟩ := body p e s m args below meth c s₁ B hml hP s₁ he (Stand.of_body B)
    exact ⟨t, o, a1, b1, b2, b3, b4⟩
theorem Ct.ofF {E : En} {M : Mth} {d mc ms : Nat} {av : List Value} {ws : va_W} {Z : Option Value → va_W → Prop} (hpl : plainFor M.1 = true) (hlen : (lg_sl av).length ≤ M.2.2.1)
    (body : ∀ X : Fx, Cx E X M.2.1 M.2.2.1 M.1.cls M.2.2.2 d (40 * d) mc ms → Rt E X Z mc ms → X.2.2.2.2.2.2.2.1.name = M.1.name → GG E X ws 0 0 0 (lv_args 0 av) []) : Ct E M d mc ms av ws Z := by
  intro sz
  refine Met.ofWF (cc := M.2.1) (maxL := M.2.2.1) (ret := M.2.2.2) hpl rfl ?_
  intro p e s m args below meth c s₁ B hml hv
  obtain ⟨rfl, hsz, hP, hK, hD0, hnw⟩ := hv
  have hts := atoms_spec (ws := gws M) B.pre
  have hown : s.vm.findClass M.1.cls = some m.cls := findClass_of_methodNamed B.named
  subst hsz
  have hl := lv_entry av (n := M.2.2.1) hlen
  rw [lg_entry_eq]
  have hD := hD0.self (sz := s.heap.size)
  exact body (p, e, { frames := d, cells := mc, slots := ms, locals := 40 * d }, s, m, av.toArray, below, meth, c, va_A ws s.heap.size, MQ below (QQ E Z (va_A ws s.heap.size)) av.toArray s mc ms (va_A ws s.heap.size))
    ⟨B.exec, B.bytes, hml, hown, fun w hw => hts w (List.mem_cons_of_mem _ hw), B.notSynchronized, B.returns, hK, hnw, fun q h => Or.inr h, rfl⟩ rfl (name_of_methodNamed B.named B.method).1
    s.heap [] _ hP hD va_S.rf (by rw [hml]; exact hl)
set_option maxHeartbeats 400000 in
set_option maxRecDepth 100000 in
theorem cw_floorMod (E : En) (ws : va_W) (x y : Int32) (hy : ¬ y = 0) : Ct E mJ9_floorMod_7cf53 0 0 0 [.int x, .int y] ws (fun o w => ∃ r : Int32, o = some (.int r) ∧ w = ws) := by
  refine Ct.ofF (by decide +kernel) (Nat.le_of_ble_eq_true rfl) (fun X C hQ hin => ?_)
  have C : Cx E X cJ9_floorMod_7cf53 3 RJ9 (some .int) 0 0 0 0 := C
  refine mg_iload_n C dJ9_floorMod_7cf53_0 rfl ?_
  refine mg_iload_n C dJ9_floorMod_7cf53_1 rfl ?_
  refine mg_irem C dJ9_floorMod_7cf53_2 (hy) ?_
  refine mg_istore_n C dJ9_floorMod_7cf53_3 rfl ?_
  refine mg_lve (lv' := [(0, _), (1, _), (2, _)]) rfl ?_
  refine mg_iload_n C dJ9_floorMod_7cf53_4 rfl ?_
  refine mg_iload_n C dJ9_floorMod_7cf53_5 rfl ?_
  refine mg_ixor C dJ9_floorMod_7cf53_6 ?_
  refine mg_if_ge C 18 dJ9_floorMod_7cf53_7 (by decide) (fun h7 => ?_) (fun h7 => ?_)
  · refine mg_iload_n C dJ9_floorMod_7cf53_18 rfl ?_
    exact mg_iret C hQ dJ9_floorMod_7cf53_19 (⟨_, rfl, rfl⟩)
  · refine mg_iload_n C dJ9_floorMod_7cf53_10 rfl ?_
    refine mg_if_eq C 18 dJ9_floorMod_7cf53_11 (by decide) (fun h11 => ?_) (fun h11 => ?_)
    · refine mg_iload_n C dJ9_floorMod_7cf53_18 rfl ?_
      exact mg_iret C hQ dJ9_floorMod_7cf53_19 (⟨_, rfl, rfl⟩)
    · refine mg_iload_n C dJ9_floorMod_7cf53_14 rfl ?_
      refine mg_iload_n C dJ9_floorMod_7cf53_15 rfl ?_
      refine mg_iadd C dJ9_floorMod_7cf53_16 ?_
      exact mg_iret C hQ dJ9_floorMod_7cf53_17 (⟨_, rfl, rfl⟩)
theorem bc_ret {ws : va_W} (x : Int32) : ∃ j : Nat, j < 64 ∧ some (Value.int (x &&& 63)) = some (.int (nI j)) ∧ ws = ws := by
  obtain ⟨j, hj, e⟩ := pk_andE x (m := 63) 6 (by decide)
  exact ⟨j, hj, by rw [e], rfl⟩
set_option maxHeartbeats 400000 in
set_option maxRecDepth 100000 in
theorem cw_bitCount (E : En) (ws : va_W) (x : Int32) : Ct E mJ6_bitCount_0f7a4 0 0 0 [.int x] ws (fun o w => ∃ j : Nat, j < 64 ∧ o = some (.int (nI j)) ∧ w = ws) := by
  refine Ct.ofF (by decide +kernel) (Nat.le_of_ble_eq_true rfl) (fun X C hQ hin => ?_)
  have C : Cx E X cJ6_bitCount_0f7a4 1 RJ6 (some .int) 0 0 0 0 := C
  refine mg_iload_n C dJ6_bitCount_0f7a4_0 rfl ?_
  refine mg_iload_n C dJ6_bitCount_0f7a4_1 rfl ?_
  refine mg_iconst (v := 1) C dJ6_bitCount_0f7a4_2 (by decide) ?_
  refine mg_iushr C dJ6_bitCount_0f7a4_3 ?_
  refine mg_ldcw C dJ6_bitCount_0f7a4_4 kJ6_265 ?_
  refine mg_iand C dJ6_bitCount_0f7a4_7 ?_
  refine mg_isub C dJ6_bitCount_0f7a4_8 ?_
  refine mg_istore_n C dJ6_bitCount_0f7a4_9 rfl ?_
  refine mg_lve (lv' := [(0, _)]) rfl ?_
  refine mg_iload_n C dJ6_bitCount_0f7a4_10 rfl ?_
  refine mg_ldcw C dJ6_bitCount_0f7a4_11 kJ6_266 ?_
  refine mg_iand C dJ6_bitCount_0f7a4_14 ?_
  refine mg_iload_n C dJ6_bitCount_0f7a4_15 rfl ?_
  refine mg_iconst (v := 2) C dJ6_bitCount_0f7a4_16 (by decide) ?_
  refine mg_iushr C dJ6_bitCount_0f7a4_17 ?_
  refine mg_ldcw C dJ6_bitCount_0f7a4_18 kJ6_266 ?_
  refine mg_iand C dJ6_bitCount_0f7a4_21 ?_
  refine mg_iadd C dJ6_bitCount_0f7a4_22 ?_
  refine mg_istore_n C dJ6_bitCount_0f7a4_23 rfl ?_
  refine mg_lve (lv' := [(0, _)]) rfl ?_
  refine mg_iload_n C dJ6_bitCount_0f7a4_24 rfl ?_
  refine mg_iload_n C dJ6_bitCount_0f7a4_25 rfl ?_
  refine mg_iconst (v := 4) C dJ6_bitCount_0f7a4_26 (by decide) ?_
  refine mg_iushr C dJ6_bitCount_0f7a4_27 ?_
  refine mg_iadd C dJ6_bitCount_0f7a4_28 ?_
  refine mg_ldcw C dJ6_bitCount_0f7a4_29 kJ6_267 ?_
  refine mg_iand C dJ6_bitCount_0f7a4_32 ?_
  refine mg_istore_n C dJ6_bitCount_0f7a4_33 rfl ?_
  refine mg_lve (lv' := [(0, _)]) rfl ?_
  refine mg_iload_n C dJ6_bitCount_0f7a4_34 rfl ?_
  refine mg_iload_n C dJ6_bitCount_0f7a4_35 rfl ?_
  refine mg_bipush (v := 8) C dJ6_bitCount_0f7a4_36 (by decide) ?_
  refine mg_iushr C dJ6_bitCount_0f7a4_38 ?_
  refine mg_iadd C dJ6_bitCount_0f7a4_39 ?_
  refine mg_istore_n C dJ6_bitCount_0f7a4_40 rfl ?_
  refine mg_lve (lv' := [(0, _)]) rfl ?_
  refine mg_iload_n C dJ6_bitCount_0f7a4_41 rfl ?_
  refine mg_iload_n C dJ6_bitCount_0f7a4_42 rfl ?_
  refine mg_bipush (v := 16) C dJ6_bitCount_0f7a4_43 (by decide) ?_
  refine mg_iushr C dJ6_bitCount_0f7a4_45 ?_
  refine mg_iadd C dJ6_bitCount_0f7a4_46 ?_
  refine mg_istore_n C dJ6_bitCount_0f7a4_47 rfl ?_
  refine mg_lve (lv' := [(0, _)]) rfl ?_
  refine mg_iload_n C dJ6_bitCount_0f7a4_48 rfl ?_
  refine mg_bipush (v := 63) C dJ6_bitCount_0f7a4_49 (by decide) ?_
  refine mg_iand C dJ6_bitCount_0f7a4_51 ?_
  exact mg_iret C hQ dJ6_bitCount_0f7a4_52 (bc_ret _)
set_option maxHeartbeats 400000 in
set_option maxRecDepth 100000 in
theorem cw_X0_columnBy (E : En) (ad : Nat → Nat) (fl : Nat) (g : Nat → Int32) (a : Nat → Nat → Int32) (v : Nat → Int64) (tl : va_W) (x y : Int32) (Cc : Nat) (d1 : g 1 = nI Cc) (hC : Cc ≤ 24) : Ct E mX0_columnBy 0 0 0 [.ref (ad 7), .int x, .int y] (cw E ad fl g a v tl) (fun o w => ∃ r : Int32, o = some (.int r) ∧ w = cw E ad fl g a v tl) := by
  refine Ct.of (by decide) (Nat.le_of_ble_eq_true rfl) (fun X C hQ hin => ?_)
  have C : Cx E X cX0_columnBy 4 RX0 (some .int) 0 0 0 0 := C
  have loop : ∀ (m i : Nat), Cc < i + m → i ≤ Cc → GG E X (cw E ad fl g a v tl) 0 0 17 [(0, .ref (ad 7)), (1, .int x), (2, .int y), (3, .int (nI i))] [] := by
    intro m
    induction m with
    | zero => intro i hm hi; omega
    | succ m ih =>
      intro i hm hi
      refine mg_iload_n C dX0_columnBy_17 rfl ?_
      refine mg_aload_n C dX0_columnBy_18 rfl ?_
      refine mg_get C inG_X0 fX0_18 (ci := 0) rfl rfl 7 rfl rfl dX0_columnBy_19 ?_
      refine mg_getN C inG_X1 fX0_28 (ci := 1) rfl rfl 18 rfl rfl dX0_columnBy_22 ?_
      refine mg_icmp_ge C 48 dX0_columnBy_25 (by decide) (fun h25 => ?_) (fun h25 => ?_)
      · refine mg_bipush (v := 100) C dX0_columnBy_48 (by decide) ?_
        exact mg_iret C hQ dX0_columnBy_50 (⟨_, rfl, rfl⟩)
      · have hlt : i < Cc := (by rcases Nat.lt_or_ge i Cc with h | h; exact h; exact absurd (by rw [d1]; exact nI_le h (by omega)) h25)
        refine mg_iload_n C dX0_columnBy_28 rfl ?_
        refine mg_iload_n C dX0_columnBy_29 rfl ?_
        refine mg_iconst (v := 1) C dX0_columnBy_30 (by decide) ?_
        refine mg_iadd C dX0_columnBy_31 ?_
        refine mg_imul C dX0_columnBy_32 ?_
        refine mg_bipush (v := 97) C dX0_columnBy_33 (by decide) ?_
        refine mg_irem C dX0_columnBy_35 (by decide) ?_
        refine mg_iload_n C dX0_columnBy_36 rfl ?_
        refine mg_icmp_ne C 42 dX0_columnBy_37 (by decide) (fun h37 => ?_) (fun h37 => ?_)
        · refine mg_iinc C dX0_columnBy_42 rfl rfl ?_
          refine mg_lve (lv' := [(0, _), (1, _), (2, _), (3, _)]) rfl ?_
          refine mg_goto C 17 dX0_columnBy_45 (by decide) ?_
          rw [show nI i + Int32.ofInt 1 = nI (i + 1) from (nI_succ i).symm]
          exact ih (i + 1) (by omega) (by omega)
        · refine mg_iload_n C dX0_columnBy_40 rfl ?_
          exact mg_iret C hQ dX0_columnBy_41 (⟨_, rfl, rfl⟩)
  refine mg_iload_n C dX0_columnBy_0 rfl ?_
  refine mg_if_ne C 15 dX0_columnBy_1 (by decide) (fun h1 => ?_) (fun h1 => ?_)
  · refine mg_iconst (v := 0) C dX0_columnBy_15 (by decide) ?_
    refine mg_istore_n C dX0_columnBy_16 rfl ?_
    refine mg_lve (lv' := [(0, _), (1, _), (2, _), (3, _)]) rfl ?_
    exact loop (Cc + 1) 0 (by omega) (by omega)
  · refine mg_iload_n C dX0_columnBy_4 rfl ?_
    refine mg_if_ne C 12 dX0_columnBy_5 (by decide) (fun h5 => ?_) (fun h5 => ?_)
    · refine mg_bipush (v := 100) C dX0_columnBy_12 (by decide) ?_
      exact mg_iret C hQ dX0_columnBy_14 (⟨_, rfl, rfl⟩)
    · refine mg_iconst (v := (-1)) C dX0_columnBy_8 (by decide) ?_
      refine mg_goto C 14 dX0_columnBy_9 (by decide) ?_
      exact mg_iret C hQ dX0_columnBy_14 (⟨_, rfl, rfl⟩)
set_option maxHeartbeats 400000 in
set_option maxRecDepth 100000 in
theorem cw_X0_wrongColumn (E : En) (ad : Nat → Nat) (fl : Nat) (g : Nat → Int32) (a : Nat → Nat → Int32) (v : Nat → Int64) (tl : va_W) (R Cc : Nat) (d0 : g 0 = nI R) (hR : R ≤ 8) (d1 : g 1 = nI Cc) (hC : Cc ≤ 24) : Ct E mX0_wrongColumn 2 0 0 [.ref (ad 7)] (cw E ad fl g a v tl) (fun o w => ∃ r : Int32, o = some (.int r) ∧ w = cw E ad fl g a v tl) := by
  refine Ct.of (by decide) (Nat.le_of_ble_eq_true rfl) (fun X C hQ hin => ?_)
  have C : Cx E X cX0_wrongColumn 4 RX0 (some .int) 2 80 0 0 := C
  have loop2 : ∀ (m i : Nat) (y z : Int32), R < i + m → i ≤ R → GG E X (cw E ad fl g a v tl) 0 0 51 [(0, .ref (ad 7)), (1, .int y), (2, .int z), (3, .int (nI i))] [] := by
    intro m
    induction m with
    | zero => intro i y z hm hi; omega
    | succ m ih =>
      intro i y z hm hi
      refine mg_iload_n C dX0_wrongColumn_51 rfl ?_
      refine mg_aload_n C dX0_wrongColumn_52 rfl ?_
      refine mg_get C inG_X0 fX0_18 (ci := 0) rfl rfl 7 rfl rfl dX0_wrongColumn_53 ?_
      refine mg_getN C inG_X1 fX0_22 (ci := 1) rfl rfl 18 rfl rfl dX0_wrongColumn_56 ?_
      refine mg_icmp_ge C 106 dX0_wrongColumn_59 (by decide) (fun h59 => ?_) (fun h59 => ?_)
      · refine mg_aload_n C dX0_wrongColumn_106 rfl ?_
        refine mg_iload_n C dX0_wrongColumn_107 rfl ?_
        refine mg_bipush (v := 97) C dX0_wrongColumn_108 (by decide) ?_
        refine mg_callS C (cw_floorMod E _ _ _ (by decide)) oX0_49 rfl rfl rfl dX0_wrongColumn_110 (fun o110 w110 z110 => ?_)
        obtain ⟨r110, rfl, rfl⟩ := z110
        refine mg_v ?_
        refine mg_iload_n C dX0_wrongColumn_113 rfl ?_
        refine mg_bipush (v := 97) C dX0_wrongColumn_114 (by decide) ?_
        refine mg_callS C (cw_floorMod E _ _ _ (by decide)) oX0_49 rfl rfl rfl dX0_wrongColumn_116 (fun o116 w116 z116 => ?_)
        obtain ⟨r116, rfl, rfl⟩ := z116
        refine mg_v ?_
        refine mg_callV C (cw_X0_columnBy E _ _ _ _ _ _ _ _ Cc d1 hC) oX0_54 7 rfl rfl rfl rfl rfl dX0_wrongColumn_119 (fun o119 w119 z119 => ?_)
        obtain ⟨r119, rfl, rfl⟩ := z119
        refine mg_v ?_
        exact mg_iret C hQ dX0_wrongColumn_122 (⟨_, rfl, rfl⟩)
      · have hlt : i < R := (by rcases Nat.lt_or_ge i R with h | h; exact h; exact absurd (by rw [d0]; exact nI_le h (by omega)) h59)
        have hin8 : vp_in (nI i) 8 := vp_in_nI (by omega) (by decide)
        refine mg_iload_n C dX0_wrongColumn_62 rfl ?_
        refine mg_aload_n C dX0_wrongColumn_63 rfl ?_
        refine mg_get C inG_X0 fX0_18 (ci := 0) rfl rfl 7 rfl rfl dX0_wrongColumn_64 ?_
        refine mg_getN C inG_X1 fX0_46 (ci := 1) rfl rfl 18 rfl rfl dX0_wrongColumn_67 ?_
        refine mg_iload_n C dX0_wrongColumn_70 rfl ?_
        refine mg_iald C 14 rfl (hin8) dX0_wrongColumn_71 ?_
        refine mg_aload_n C dX0_wrongColumn_72 rfl ?_
        refine mg_get C inG_X0 fX0_9 (ci := 0) rfl rfl 7 rfl rfl dX0_wrongColumn_73 ?_
        refine mg_iload_n C dX0_wrongColumn_76 rfl ?_
        refine mg_iald C 6 rfl (hin8) dX0_wrongColumn_77 ?_
        refine mg_imul C dX0_wrongColumn_78 ?_
        refine mg_isub C dX0_wrongColumn_79 ?_
        refine mg_istore_n C dX0_wrongColumn_80 rfl ?_
        refine mg_lve (lv' := [(0, _), (1, _), (2, _), (3, _)]) rfl ?_
        refine mg_iload_n C dX0_wrongColumn_81 rfl ?_
        refine mg_aload_n C dX0_wrongColumn_82 rfl ?_
        refine mg_get C inG_X0 fX0_18 (ci := 0) rfl rfl 7 rfl rfl dX0_wrongColumn_83 ?_
        refine mg_getN C inG_X1 fX0_46 (ci := 1) rfl rfl 18 rfl rfl dX0_wrongColumn_86 ?_
        refine mg_iload_n C dX0_wrongColumn_89 rfl ?_
        refine mg_iald C 14 rfl (hin8) dX0_wrongColumn_90 ?_
        refine mg_aload_n C dX0_wrongColumn_91 rfl ?_
        refine mg_get C inG_X0 fX0_15 (ci := 0) rfl rfl 7 rfl rfl dX0_wrongColumn_92 ?_
        refine mg_iload_n C dX0_wrongColumn_95 rfl ?_
        refine mg_iald C 5 rfl (hin8) dX0_wrongColumn_96 ?_
        refine mg_imul C dX0_wrongColumn_97 ?_
        refine mg_isub C dX0_wrongColumn_98 ?_
        refine mg_istore_n C dX0_wrongColumn_99 rfl ?_
        refine mg_lve (lv' := [(0, _), (1, _), (2, _), (3, _)]) rfl ?_
        refine mg_iinc C dX0_wrongColumn_100 rfl rfl ?_
        refine mg_lve (lv' := [(0, _), (1, _), (2, _), (3, _)]) rfl ?_
        refine mg_goto C 51 dX0_wrongColumn_103 (by decide) ?_
        rw [show nI i + Int32.ofInt 1 = nI (i + 1) from (nI_succ i).symm]
        exact ih (i + 1) _ _ (by omega) (by omega)
  have loop1 : ∀ (m i : Nat) (y z : Int32), Cc < i + m → i ≤ Cc → GG E X (cw E ad fl g a v tl) 0 0 6 [(0, .ref (ad 7)), (1, .int y), (2, .int z), (3, .int (nI i))] [] := by
    intro m
    induction m with
    | zero => intro i y z hm hi; omega
    | succ m ih =>
      intro i y z hm hi
      refine mg_iload_n C dX0_wrongColumn_6 rfl ?_
      refine mg_aload_n C dX0_wrongColumn_7 rfl ?_
      refine mg_get C inG_X0 fX0_18 (ci := 0) rfl rfl 7 rfl rfl dX0_wrongColumn_8 ?_
      refine mg_getN C inG_X1 fX0_28 (ci := 1) rfl rfl 18 rfl rfl dX0_wrongColumn_11 ?_
      refine mg_icmp_ge C 49 dX0_wrongColumn_14 (by decide) (fun h14 => ?_) (fun h14 => ?_)
      · refine mg_iconst (v := 0) C dX0_wrongColumn_49 (by decide) ?_
        refine mg_istore_n C dX0_wrongColumn_50 rfl ?_
        refine mg_lve (lv' := [(0, _), (1, _), (2, _), (3, _)]) rfl ?_
        exact loop2 (R + 1) 0 _ _ (by omega) (by omega)
      · have hlt : i < Cc := (by rcases Nat.lt_or_ge i Cc with h | h; exact h; exact absurd (by rw [d1]; exact nI_le h (by omega)) h14)
        refine mg_iload_n C dX0_wrongColumn_17 rfl ?_
        refine mg_aload_n C dX0_wrongColumn_18 rfl ?_
        refine mg_get C inG_X0 fX0_18 (ci := 0) rfl rfl 7 rfl rfl dX0_wrongColumn_19 ?_
        refine mg_iload_n C dX0_wrongColumn_22 rfl ?_
        refine mg_callVN C (cw_X1_columnSum E _ _ _ _ _ _ R i d0 hR (by omega)) oX0_42 18 rfl rfl rfl rfl rfl dX0_wrongColumn_23 (fun o23 w23 z23 => ?_)
        obtain ⟨r23, rfl, rfl⟩ := z23
        refine mg_v ?_
        refine mg_iadd C dX0_wrongColumn_26 ?_
        refine mg_istore_n C dX0_wrongColumn_27 rfl ?_
        refine mg_lve (lv' := [(0, _), (1, _), (2, _), (3, _)]) rfl ?_
        refine mg_iload_n C dX0_wrongColumn_28 rfl ?_
        refine mg_iload_n C dX0_wrongColumn_29 rfl ?_
        refine mg_iconst (v := 1) C dX0_wrongColumn_30 (by decide) ?_
        refine mg_iadd C dX0_wrongColumn_31 ?_
        refine mg_aload_n C dX0_wrongColumn_32 rfl ?_
        refine mg_get C inG_X0 fX0_18 (ci := 0) rfl rfl 7 rfl rfl dX0_wrongColumn_33 ?_
        refine mg_iload_n C dX0_wrongColumn_36 rfl ?_
        refine mg_callVN C (cw_X1_columnSum E _ _ _ _ _ _ R i d0 hR (by omega)) oX0_42 18 rfl rfl rfl rfl rfl dX0_wrongColumn_37 (fun o37 w37 z37 => ?_)
        obtain ⟨r37, rfl, rfl⟩ := z37
        refine mg_v ?_
        refine mg_imul C dX0_wrongColumn_40 ?_
        refine mg_iadd C dX0_wrongColumn_41 ?_
        refine mg_istore_n C dX0_wrongColumn_42 rfl ?_
        refine mg_lve (lv' := [(0, _), (1, _), (2, _), (3, _)]) rfl ?_
        refine mg_iinc C dX0_wrongColumn_43 rfl rfl ?_
        refine mg_lve (lv' := [(0, _), (1, _), (2, _), (3, _)]) rfl ?_
        refine mg_goto C 6 dX0_wrongColumn_46 (by decide) ?_
        rw [show nI i + Int32.ofInt 1 = nI (i + 1) from (nI_succ i).symm]
        exact ih (i + 1) _ _ (by omega) (by omega)
  refine mg_iconst (v := 0) C dX0_wrongColumn_0 (by decide) ?_
  refine mg_istore_n C dX0_wrongColumn_1 rfl ?_
  refine mg_lve (lv' := [(0, _), (1, _)]) rfl ?_
  refine mg_iconst (v := 0) C dX0_wrongColumn_2 (by decide) ?_
  refine mg_istore_n C dX0_wrongColumn_3 rfl ?_
  refine mg_lve (lv' := [(0, _), (1, _), (2, _)]) rfl ?_
  refine mg_iconst (v := 0) C dX0_wrongColumn_4 (by decide) ?_
  refine mg_istore_n C dX0_wrongColumn_5 rfl ?_
  refine mg_lve (lv' := [(0, _), (1, _), (2, _), (3, _)]) rfl ?_
  exact loop1 (Cc + 1) 0 _ _ (by omega) (by omega)
set_option maxHeartbeats 400000 in
set_option maxRecDepth 100000 in
theorem cv_look (E : En) (ad : Nat → Nat) (fl : Nat) (g : Nat → Int32) (a : Nat → Nat → Int32) (v : Nat → Int64) (tl : va_W)  (hV : CV fl g a) : Ct E mX4_look 3 0 0 [.ref (ad 19)] (cw E ad fl g a v tl) (fun o w => ∃ (r : Int32) (ad1 : Nat → Nat) (fl1 : Nat) (g1 : Nat → Int32) (a1 : Nat → Nat → Int32) (v1 : Nat → Int64), o = some (.int r) ∧ Sh g a g1 a1 ∧ CV fl1 g1 a1 ∧ ad1 19 = ad 19 ∧ w = cw E ad1 fl1 g1 a1 v1 tl) := by
  refine Ct.of (by decide) (Nat.le_of_ble_eq_true rfl) (fun X C hQ hin => ?_)
  have C : Cx E X cX4_look 1 RX4 (some .int) 3 120 0 0 := C
  obtain ⟨R, Cc, T, n, m, D, F, ⟨⟨d0, d0a, d0b⟩, ⟨d1, d1a, d1b⟩, ⟨d2, d2a, d2b⟩, ⟨d4, d4a⟩, d5, ⟨d6, d6a⟩, dcm, dn0, dn1⟩, ⟨dF, dF1, dF2⟩, drow, dout⟩ := id hV.1
  refine mg_aload_n C dX4_look_0 rfl ?_
  refine mg_get C inG_X4 fX4_28 (ci := 4) rfl rfl 19 rfl rfl dX4_look_1 ?_
  refine mg_getN C inG_X0 fX4_50 (ci := 0) rfl rfl 7 rfl rfl dX4_look_4 ?_
  refine mg_if_eq C 20 dX4_look_7 (by decide) (fun h7 => ?_) (fun h7 => ?_)
  · refine mg_bipush (v := (-3)) C dX4_look_20 (by decide) ?_
    exact mg_iret C hQ dX4_look_22 (⟨_, ad, fl, g, a, v, rfl, Sh.rf, hV, rfl, rfl⟩)
  · refine mg_aload_n C dX4_look_10 rfl ?_
    refine mg_get C inG_X4 fX4_28 (ci := 4) rfl rfl 19 rfl rfl dX4_look_11 ?_
    refine mg_callVN C (cw_X0_wrongColumn E _ _ _ _ _ _ R Cc d0 d0b d1 d1b) oX4_148 7 rfl rfl rfl rfl rfl dX4_look_14 (fun o14 w14 z14 => ?_)
    obtain ⟨r1, rfl, rfl⟩ := z14
    refine mg_v ?_
    refine mg_goto C 22 dX4_look_17 (by decide) ?_
    exact mg_iret C hQ dX4_look_22 (⟨_, ad, fl, g, a, v, rfl, Sh.rf, hV, rfl, rfl⟩)
def gCount (g : Nat → Int32) (a : Nat → Nat → Int32) (x : Int32) : Int32 :=
  if x.toInt < 0 ∨ 8 < x.toInt then -2 else
  match x.toNatClampNeg with
  | 0 => g 0
  | 1 => g 1
  | 2 => g 2
  | 3 => nI (skR a (g 1).toNatClampNeg (g 0).toNatClampNeg)
  | 4 => g 4
  | 5 => g 5
  | 6 => g 6
  | 7 => if g 8 = 0 then 0 else 1
  | _ => if g 9 = 0 then 0 else 1
theorem gCount_in {g : Nat → Int32} {a : Nat → Nat → Int32} {x : Int32} (h : ¬ (x.toInt < 0 ∨ 8 < x.toInt)) : gCount g a x = (match x.toNatClampNeg with
  | 0 => g 0
  | 1 => g 1
  | 2 => g 2
  | 3 => nI (skR a (g 1).toNatClampNeg (g 0).toNatClampNeg)
  | 4 => g 4
  | 5 => g 5
  | 6 => g 6
  | 7 => if g 8 = 0 then 0 else 1
  | _ => if g 9 = 0 then 0 else 1) := by rw [gCount, if_neg h]
set_option maxHeartbeats 400000 in
set_option maxRecDepth 100000 in
theorem cx_count (E : En) (ad : Nat → Nat) (fl : Nat) (g : Nat → Int32) (a : Nat → Nat → Int32) (v : Nat → Int64) (tl : va_W) (xx : Int32) (hV : CV fl g a) : Ct E mX4_count 2 0 0 [.ref (ad 19), .int xx] (cw E ad fl g a v tl) (fun o w => o = some (.int (gCount g a xx)) ∧ w = cw E ad fl g a v tl) := by
  refine Ct.of (by decide) (Nat.le_of_ble_eq_true rfl) (fun X C hQ hin => ?_)
  have C : Cx E X cX4_count 2 RX4 (some .int) 2 80 0 0 := C
  obtain ⟨R, Cc, T, n, m, D, F, ⟨⟨d0, d0a, d0b⟩, ⟨d1, d1a, d1b⟩, ⟨d2, d2a, d2b⟩, ⟨d4, d4a⟩, d5, ⟨d6, d6a⟩, dcm, dn0, dn1⟩, ⟨dF, dF1, dF2⟩, drow, dout⟩ := id hV.1
  refine mg_iload_n C dX4_count_0 rfl ?_
  by_cases hx : xx.toInt < 0 ∨ 8 < xx.toInt
  · refine mg_tabOut C 140 dX4_count_1 hx (by decide) ?_
    refine mg_bipush (v := (-2)) C dX4_count_140 (by decide) ?_
    exact mg_iret C hQ dX4_count_142 (⟨by rw [gCount, if_pos hx], rfl⟩)
  · have hgc := gCount_in (g := g) (a := a) hx
    obtain ⟨j, hj, e⟩ := nI_of (x := xx) (fun hh => hx (Or.inl (by rw [Int32.lt_iff_toInt_lt] at hh; exact hh)))
    subst e
    have hj8 : j ≤ 8 := (by rw [nI_toInt hj] at hx; omega)
    rw [nI_clamp (by omega)] at hgc
    rcases (by omega : j = 0 ∨ j = 1 ∨ j = 2 ∨ j = 3 ∨ j = 4 ∨ j = 5 ∨ j = 6 ∨ j = 7 ∨ j = 8) with rfl | rfl | rfl | rfl | rfl | rfl | rfl | rfl | rfl
    · refine mg_tabIn C 52 dX4_count_1 (by decide) (by decide) rfl (by decide) ?_
      refine mg_aload_n C dX4_count_52 rfl ?_
      refine mg_get C inG_X4 fX4_10 (ci := 4) rfl rfl 19 rfl rfl dX4_count_53 ?_
      refine mg_getN C inG_X1 fX4_79 (ci := 1) rfl rfl 18 rfl rfl dX4_count_56 ?_
      exact mg_iret C hQ dX4_count_59 (⟨by rw [hgc]; rfl, rfl⟩)
    · refine mg_tabIn C 60 dX4_count_1 (by decide) (by decide) rfl (by decide) ?_
      refine mg_aload_n C dX4_count_60 rfl ?_
      refine mg_get C inG_X4 fX4_10 (ci := 4) rfl rfl 19 rfl rfl dX4_count_61 ?_
      refine mg_getN C inG_X1 fX4_89 (ci := 1) rfl rfl 18 rfl rfl dX4_count_64 ?_
      exact mg_iret C hQ dX4_count_67 (⟨by rw [hgc]; rfl, rfl⟩)
    · refine mg_tabIn C 68 dX4_count_1 (by decide) (by decide) rfl (by decide) ?_
      refine mg_aload_n C dX4_count_68 rfl ?_
      refine mg_get C inG_X4 fX4_10 (ci := 4) rfl rfl 19 rfl rfl dX4_count_69 ?_
      refine mg_getN C inG_X1 fX4_58 (ci := 1) rfl rfl 18 rfl rfl dX4_count_72 ?_
      exact mg_iret C hQ dX4_count_75 (⟨by rw [hgc]; rfl, rfl⟩)
    · refine mg_tabIn C 76 dX4_count_1 (by decide) (by decide) rfl (by decide) ?_
      refine mg_aload_n C dX4_count_76 rfl ?_
      refine mg_get C inG_X4 fX4_10 (ci := 4) rfl rfl 19 rfl rfl dX4_count_77 ?_
      refine mg_callVN C (cw_X1_stickingCells E _ _ _ _ _ _ R Cc d0 d0b d1 d1b) oX4_182 18 rfl rfl rfl rfl rfl dX4_count_80 (fun o80 w80 z80 => ?_)
      obtain ⟨rfl, rfl⟩ := z80
      refine mg_v ?_
      exact mg_iret C hQ dX4_count_83 (⟨by rw [hgc]; show _ = some (Value.int (nI (skR a (g 1).toNatClampNeg (g 0).toNatClampNeg))); rw [d0, d1, nI_clamp (by omega), nI_clamp (by omega)], rfl⟩)
    · refine mg_tabIn C 84 dX4_count_1 (by decide) (by decide) rfl (by decide) ?_
      refine mg_aload_n C dX4_count_84 rfl ?_
      refine mg_get C inG_X4 fX4_21 (ci := 4) rfl rfl 19 rfl rfl dX4_count_85 ?_
      refine mg_getN C inG_X3 fX4_102 (ci := 3) rfl rfl 13 rfl rfl dX4_count_88 ?_
      exact mg_iret C hQ dX4_count_91 (⟨by rw [hgc]; rfl, rfl⟩)
    · refine mg_tabIn C 92 dX4_count_1 (by decide) (by decide) rfl (by decide) ?_
      refine mg_aload_n C dX4_count_92 rfl ?_
      refine mg_get C inG_X4 fX4_21 (ci := 4) rfl rfl 19 rfl rfl dX4_count_93 ?_
      refine mg_getN C inG_X3 fX4_105 (ci := 3) rfl rfl 13 rfl rfl dX4_count_96 ?_
      exact mg_iret C hQ dX4_count_99 (⟨by rw [hgc]; rfl, rfl⟩)
    · refine mg_tabIn C 100 dX4_count_1 (by decide) (by decide) rfl (by decide) ?_
      refine mg_aload_n C dX4_count_100 rfl ?_
      refine mg_get C inG_X4 fX4_21 (ci := 4) rfl rfl 19 rfl rfl dX4_count_101 ?_
      refine mg_getN C inG_X3 fX4_185 (ci := 3) rfl rfl 13 rfl rfl dX4_count_104 ?_
      exact mg_iret C hQ dX4_count_107 (⟨by rw [hgc]; rfl, rfl⟩)
    · refine mg_tabIn C 108 dX4_count_1 (by decide) (by decide) rfl (by decide) ?_
      refine mg_aload_n C dX4_count_108 rfl ?_
      refine mg_get C inG_X4 fX4_21 (ci := 4) rfl rfl 19 rfl rfl dX4_count_109 ?_
      refine mg_getN C inG_X3 fX4_124 (ci := 3) rfl rfl 13 rfl rfl dX4_count_112 ?_
      refine mg_if_eq C 122 dX4_count_115 (by decide) (fun h115 => ?_) (fun h115 => ?_)
      · refine mg_iconst (v := 0) C dX4_count_122 (by decide) ?_
        exact mg_iret C hQ dX4_count_123 (⟨by rw [hgc]; show _ = some (Value.int (if g 8 = 0 then 0 else 1)); rw [if_pos h115], rfl⟩)
      · refine mg_iconst (v := 1) C dX4_count_118 (by decide) ?_
        refine mg_goto C 123 dX4_count_119 (by decide) ?_
        exact mg_iret C hQ dX4_count_123 (⟨by rw [hgc]; show _ = some (Value.int (if g 8 = 0 then 0 else 1)); rw [if_neg h115], rfl⟩)
    · refine mg_tabIn C 124 dX4_count_1 (by decide) (by decide) rfl (by decide) ?_
      refine mg_aload_n C dX4_count_124 rfl ?_
      refine mg_get C inG_X4 fX4_28 (ci := 4) rfl rfl 19 rfl rfl dX4_count_125 ?_
      refine mg_getN C inG_X0 fX4_50 (ci := 0) rfl rfl 7 rfl rfl dX4_count_128 ?_
      refine mg_if_eq C 138 dX4_count_131 (by decide) (fun h131 => ?_) (fun h131 => ?_)
      · refine mg_iconst (v := 0) C dX4_count_138 (by decide) ?_
        exact mg_iret C hQ dX4_count_139 (⟨by rw [hgc]; show _ = some (Value.int (if g 9 = 0 then 0 else 1)); rw [if_pos h131], rfl⟩)
      · refine mg_iconst (v := 1) C dX4_count_134 (by decide) ?_
        refine mg_goto C 139 dX4_count_135 (by decide) ?_
        exact mg_iret C hQ dX4_count_139 (⟨by rw [hgc]; show _ = some (Value.int (if g 9 = 0 then 0 else 1)); rw [if_neg h131], rfl⟩)
theorem cv_count (E : En) (ad : Nat → Nat) (fl : Nat) (g : Nat → Int32) (a : Nat → Nat → Int32) (v : Nat → Int64) (tl : va_W) (xx : Int32) (hV : CV fl g a) : Ct E mX4_count 2 0 0 [.ref (ad 19), .int xx] (cw E ad fl g a v tl) (fun o w => ∃ (ad1 : Nat → Nat) (fl1 : Nat) (g1 : Nat → Int32) (a1 : Nat → Nat → Int32) (v1 : Nat → Int64), o = some (.int (gCount g a xx)) ∧ Sh g a g1 a1 ∧ CV fl1 g1 a1 ∧ ad1 19 = ad 19 ∧ w = cw E ad1 fl1 g1 a1 v1 tl) :=
  (cx_count E ad fl g a v tl xx hV).mono (fun o w hz => ⟨ad, fl, g, a, v, hz.1, Sh.rf, hV, rfl, hz.2⟩)
