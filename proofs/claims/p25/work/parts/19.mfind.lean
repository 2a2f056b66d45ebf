theorem mg_lushr {E : En} {X : Fx} {cc : ByteArray} {nL : Nat} {own : String} {ret : Option FieldType} {fr lo rc rs : Nat} {ws : va_W} {k n pc : Nat} {lv : List (Nat × Value)} {rest : List Value} (C : Cx E X cc nL own ret fr lo rc rs) {x : Int64} {y : Int32} (hdg : decode cc pc = .ok (.lushr, 1)) (kk : GG E X ws k n (pc + 1) lv (.long ((x.toUInt64 >>> (y.toInt64.toUInt64 &&& Int64.toUInt64 63)).toInt64) :: rest)) : GG E X ws k n pc lv (.int y :: .long x :: rest) := by
  obtain ⟨p, e, R, s, m, args, below, meth, c, A, Q⟩ := X
  obtain ⟨hx, hb, hml, hown, hts, hlk, hrt, hK, hnw, hA, hR⟩ := C
  intro H locs ls hP hD hS hl
  exact lv_lushr hx hb hdg rfl (kk H locs ls hP hD hS hl)
theorem mg_lxor {E : En} {X : Fx} {cc : ByteArray} {nL : Nat} {own : String} {ret : Option FieldType} {fr lo rc rs : Nat} {ws : va_W} {k n pc : Nat} {lv : List (Nat × Value)} {rest : List Value} (C : Cx E X cc nL own ret fr lo rc rs) {x y : Int64} (hdg : decode cc pc = .ok (.lxor, 1)) (kk : GG E X ws k n (pc + 1) lv (.long (x ^^^ y) :: rest)) : GG E X ws k n pc lv (.long y :: .long x :: rest) := by
  obtain ⟨p, e, R, s, m, args, below, meth, c, A, Q⟩ := X
  obtain ⟨hx, hb, hml, hown, hts, hlk, hrt, hK, hnw, hA, hR⟩ := C
  intro H locs ls hP hD hS hl
  exact lv_lxor hx hb hdg (kk H locs ls hP hD hS hl)
theorem lgc_eq {x y : Int64} (h : lg_cmp x y = 0) : x = y := by
  unfold lg_cmp at h
  by_cases h1 : x > y
  · rw [if_pos h1] at h; exact absurd h (by decide)
  · rw [if_neg h1] at h
    by_cases h2 : x = y
    · exact h2
    · rw [if_neg h2] at h; exact absurd h (by decide)
theorem lgc_ne {x y : Int64} (h : ¬ lg_cmp x y = 0) : x ≠ y := fun e => h (by rw [e]; unfold lg_cmp; rw [if_neg Int64.lt_irrefl, if_pos rfl])
def MI (k s : Nat) (B : Bs) (g : Nat → Int32) (a : Nat → Nat → Int32) (v : Nat → Int64) : Prop :=
  g 14 = nI B.1 ∧ BW k s B ∧ (∀ i, i < B.1 → v i = lN (emn k (B.2.1 i) s)) ∧ (∀ i, i < B.1 → a 12 i = nI (B.2.2.1 i)) ∧ (∀ i, i < B.1 → a 14 i = nI (B.2.2.2 i)) ∧ HT B.1 v (a 15)
theorem mi_add {k s : Nat} {B : Bs} {g : Nat → Int32} {a a1 : Nat → Nat → Int32} {v : Nat → Int64} {x f z : Nat} (hI : MI k s B g a v) (hx : x < Cap k s) (hf : f < 8000 ∧ (B.1 = 0 ∨ f < B.1)) (hz : z < 512) (hc : B.1 < 8000) (ho : ∀ j, j ≠ 15 → a1 j = a j) (hh : HT (B.1 + 1) (vp_updL v B.1 (lN (emn k x s))) (a1 15)) :
    MI k s (B.1 + 1, un B.2.1 B.1 x, un B.2.2.1 B.1 f, un B.2.2.2 B.1 z) (ug g 14 (nI B.1 + 1)) (ups (ups a1 12 B.1 (nI f)) 14 B.1 (nI z)) (vp_updL v B.1 (lN (emn k x s))) := by
  obtain ⟨i14, iB, i3, i4, i5, i6⟩ := hI
  refine ⟨nI_1 B.1, bw_add iB hx hf hz hc, fun i hi => ?_, fun i hi => ?_, fun i hi => ?_, hh⟩
  · by_cases e : i = B.1
    · subst e
      dsimp only
      rw [pk_uLs, un_s]
    · dsimp only
      rw [pk_uLn e, un_n e]
      exact i3 i (by dsimp only at hi; omega)
  · show upd (a1 12) B.1 (nI f) i = _
    by_cases e : i = B.1
    · subst e
      dsimp only
      rw [pk_us, un_s]
    · dsimp only
      rw [pk_un e, un_n e, ho 12 (by decide)]
      exact i4 i (by dsimp only at hi; omega)
  · show upd (a1 14) B.1 (nI z) i = _
    by_cases e : i = B.1
    · subst e
      dsimp only
      rw [pk_us, un_s]
    · dsimp only
      rw [pk_un e, un_n e, ho 14 (by decide)]
      exact i5 i (by dsimp only at hi; omega)
theorem emn_63 {k x s : Nat} (h : KS k s) : emn k x s < 2 ^ 63 := Nat.lt_of_lt_of_le (emn_lt h.1.2 s h.2.2) (Nat.pow_le_pow_right (by omega) (by omega))
theorem sn_f {n : Nat} {S : Nat → Nat} {x : Nat} (h : ∀ i, i < n → S i ≠ x) : sn n S x = false := by
  cases e : sn n S x with
  | false => rfl
  | true =>
    obtain ⟨i, h1, h2⟩ := sn_iff.mp e
    exact absurd h2 (h i h1)
theorem lN_em {k s x y : Nat} (h : KS k s) (e : lN (emn k x s) = lN (emn k y s)) : emn k x s = emn k y s := (pk_lEQ (emn_63 h) (emn_63 h)).mp e
set_option maxHeartbeats 400000 in
set_option maxRecDepth 100000 in
theorem ct_X5_isNew (E : En) (ad : Nat → Nat) (g : Nat → Int32) (a : Nat → Nat → Int32) (v : Nat → Int64) (tl : va_W) (kN sN : Nat) (B : Bs) (x : Nat) (hk : KS kN sN) (hI : MI kN sN B g a v) (hx : x < Cap kN sN) : Ct E mX5_isNew 0 0 0 [.ref (ad 17), .long (lN (emn kN x sN))] (mw E ad g a v tl) (fun o w => (sn B.1 B.2.1 x = true ∧ o = some (.int 0) ∧ w = mw E ad g a v tl) ∨ (sn B.1 B.2.1 x = false ∧ o = some (.int 1) ∧ ∃ a1 : Nat → Nat → Int32, (∀ j, j ≠ 15 → a1 j = a j) ∧ (B.1 < 8000 → HT (B.1 + 1) (vp_updL v B.1 (lN (emn kN x sN))) (a1 15)) ∧ (8000 ≤ B.1 → a1 15 = a 15) ∧ w = mw E ad g a1 v tl)) := by
  refine Ct.of (by decide) (Nat.le_of_ble_eq_true rfl) (fun X C hQ hin => ?_)
  have C : Cx E X cX5_isNew 6 RX5 (some .boolean) 0 0 0 0 := C
  obtain ⟨i14, iB, i3, i4, i5, iH⟩ := id hI
  have iB8 := iB.1
  obtain ⟨N0, hN0l, hN0⟩ := ht_free iH iB8 (hK (lN (emn kN x sN)))
  have loop : ∀ (m n : Nat), N0 < n + m → n ≤ N0 → (∀ m', m' < n → ∃ j, j < B.1 ∧ a 15 ((hK (lN (emn kN x sN)) + m') % 16384) = nI (j + 1) ∧ v j ≠ (lN (emn kN x sN))) → GG E X (mw E ad g a v tl) 0 0 13 [(0, .ref (ad 17)), (1, .long (lN (emn kN x sN))), (3, .long ((lN (emn kN x sN)) * (-7046029254386353131))), (5, .int (nI ((hK (lN (emn kN x sN)) + n) % 16384)))] [] := by
    intro m
    induction m with
    | zero => intro n hm hn; omega
    | succ m ih =>
      intro n hm hn hpa
      have hmod : (hK (lN (emn kN x sN)) + n) % 16384 < 16384 := Nat.mod_lt _ (by omega)
      have hin5 : vp_in (nI ((hK (lN (emn kN x sN)) + n) % 16384)) 16384 := vp_in_nI hmod (by decide)
      refine mg_aload_n C dX5_isNew_13 rfl ?_
      refine mg_get C inG_X5 fX5_69 (ci := 5) rfl rfl 17 rfl rfl dX5_isNew_14 ?_
      refine mg_iload C dX5_isNew_17 rfl ?_
      refine mg_iald C 1 rfl (hin5) dX5_isNew_19 ?_
      refine mg_tos (w := .int (a 15 ((hK (lN (emn kN x sN)) + n) % 16384))) (by rw [nI_clamp (by omega)]) ?_
      refine mg_if_eq C 57 dX5_isNew_20 (by decide) (fun h20 => ?_) (fun h20 => ?_)
      · have hsn : sn B.1 B.2.1 x = false := sn_f (fun i hi e => ht_miss iH hi iB8 (by rw [i3 i hi, e]) h20 hpa)
        refine mg_aload_n C dX5_isNew_57 rfl ?_
        refine mg_get C inG_X5 fX5_149 (ci := 5) rfl rfl 17 rfl rfl dX5_isNew_58 ?_
        refine mg_sipush (v := 8000) C dX5_isNew_61 (by decide) ?_
        refine mg_icmp_ge C 80 dX5_isNew_64 (by decide) (fun h64 => ?_) (fun h64 => ?_)
        · refine mg_iconst (v := 1) C dX5_isNew_80 (by decide) ?_
          exact mg_zret C hQ (rfl) dX5_isNew_81 (Or.inr ⟨hsn, rfl, a, fun _ _ => rfl, fun h8 => absurd (by rw [i14] at h64; exact h64) (nI_ge (b := 8000) h8 (by decide)), fun _ => rfl, rfl⟩)
        · refine mg_aload_n C dX5_isNew_67 rfl ?_
          refine mg_get C inG_X5 fX5_69 (ci := 5) rfl rfl 17 rfl rfl dX5_isNew_68 ?_
          refine mg_iload C dX5_isNew_71 rfl ?_
          refine mg_aload_n C dX5_isNew_73 rfl ?_
          refine mg_get C inG_X5 fX5_149 (ci := 5) rfl rfl 17 rfl rfl dX5_isNew_74 ?_
          refine mg_iconst (v := 1) C dX5_isNew_77 (by decide) ?_
          refine mg_iadd C dX5_isNew_78 ?_
          refine mg_topi (fun zv79 ezv79 => ?_)
          refine mg_iast C 1 rfl (hin5) dX5_isNew_79 (ws' := (mw E ad g (ups a 15 ((nI ((hK (lN (emn kN x sN)) + n) % 16384)) : Int32).toNatClampNeg zv79) v tl)) rfl ?_
          refine mg_iconst (v := 1) C dX5_isNew_80 (by decide) ?_
          exact mg_zret C hQ (rfl) dX5_isNew_81 (Or.inr ⟨hsn, rfl, _, fun j hj => ups_n hj, fun h8 => by have hq1 := ht_add iH h8 (by omega) h20 (fun m hm => by obtain ⟨j, hj, e, -⟩ := hpa m hm; rw [e]; exact nI_ne0 (by omega) (by omega)); show HT _ _ (upd (a 15) _ _); rw [nI_clamp (by omega), ezv79, i14, nI_1]; exact hq1, fun h8 => absurd (by rw [i14]; exact nI_le (a := 8000) h8 (by omega)) h64, rfl⟩)
      · have hn0 : n ≠ N0 := (fun e => h20 (by rw [e]; exact hN0))
        obtain ⟨q, hq, eq⟩ := iH.1 ((hK (lN (emn kN x sN)) + n) % 16384) hmod
        obtain ⟨j, ej⟩ : ∃ j, q = j + 1 := ⟨q - 1, by rcases Nat.eq_zero_or_pos q with e | e; exact absurd (by rw [eq, e]; rfl) h20; omega⟩
        subst ej
        have hinj : vp_in (nI j) 8000 := vp_in_nI (by omega) (by decide)
        refine mg_aload_n C dX5_isNew_23 rfl ?_
        refine mg_get C inG_X5 fX5_59 (ci := 5) rfl rfl 17 rfl rfl dX5_isNew_24 ?_
        refine mg_aload_n C dX5_isNew_27 rfl ?_
        refine mg_get C inG_X5 fX5_69 (ci := 5) rfl rfl 17 rfl rfl dX5_isNew_28 ?_
        refine mg_iload C dX5_isNew_31 rfl ?_
        refine mg_iald C 1 rfl (hin5) dX5_isNew_33 ?_
        refine mg_iconst (v := 1) C dX5_isNew_34 (by decide) ?_
        refine mg_isub C dX5_isNew_35 ?_
        refine mg_tos (w := .int (nI j)) (by rw [nI_clamp (by omega), eq]; exact congrArg Value.int (nI_pred j)) ?_
        refine mg_lald C 4 rfl (hinj) dX5_isNew_36 ?_
        refine mg_tos (w := .long (v j)) (by rw [nI_clamp (by omega)]) ?_
        refine mg_lload_n C dX5_isNew_37 rfl ?_
        refine mg_lcmp C dX5_isNew_38 ?_
        refine mg_if_ne C 44 dX5_isNew_39 (by decide) (fun h39 => ?_) (fun h39 => ?_)
        · refine mg_iload C dX5_isNew_44 rfl ?_
          refine mg_iconst (v := 1) C dX5_isNew_46 (by decide) ?_
          refine mg_iadd C dX5_isNew_47 ?_
          refine mg_sipush (v := 16384) C dX5_isNew_48 (by decide) ?_
          refine mg_irem C dX5_isNew_51 (by decide) ?_
          refine mg_tos (w := .int (nI ((hK (lN (emn kN x sN)) + (n + 1)) % 16384))) (by have e1 := pk_rem (a := (hK (lN (emn kN x sN)) + n) % 16384 + 1) (d := 16384) (by omega) (by omega) (by decide); rw [← nI_1] at e1; rw [show (hK (lN (emn kN x sN)) + (n + 1)) % 16384 = ((hK (lN (emn kN x sN)) + n) % 16384 + 1) % 16384 by omega]; exact congrArg Value.int e1) ?_
          refine mg_istore C dX5_isNew_52 rfl ?_
          refine mg_lve (lv' := [(0, _), (1, _), (3, _), (5, _)]) rfl ?_
          refine mg_goto C 13 dX5_isNew_54 (by decide) ?_
          refine ih (n + 1) (by omega) (by omega) (fun m' hm' => ?_)
          by_cases em : m' = n
          · subst em; exact ⟨j, by omega, eq, lgc_ne h39⟩
          · exact hpa m' (by omega)
        · refine mg_iconst (v := 0) C dX5_isNew_42 (by decide) ?_
          exact mg_zret C hQ (rfl) dX5_isNew_43 (Or.inl ⟨by rw [sn_iff]; exact ⟨j, by omega, emn_inj hk (iB.2 j (by omega)).1 hx (lN_em hk ((i3 j (by omega)).symm.trans (lgc_eq h39)))⟩, rfl, rfl⟩)
  refine mg_lload_n C dX5_isNew_0 rfl ?_
  refine mg_ldc2 C dX5_isNew_1 kX5_147 ?_
  refine mg_lmul C dX5_isNew_4 ?_
  refine mg_lstore_n C dX5_isNew_5 rfl ?_
  refine mg_lve (lv' := [(0, _), (1, _), (3, _)]) rfl ?_
  refine mg_lload_n C dX5_isNew_6 rfl ?_
  refine mg_bipush (v := 50) C dX5_isNew_7 (by decide) ?_
  refine mg_lushr C dX5_isNew_9 ?_
  refine mg_l2i C dX5_isNew_10 ?_
  refine mg_tos (w := .int (nI ((hK (lN (emn kN x sN)) + 0) % 16384))) (by rw [Nat.add_zero, Nat.mod_eq_of_lt (show hK _ < 16384 from hN_lt _)]; exact congrArg Value.int (hN_eq _)) ?_
  refine mg_istore C dX5_isNew_11 rfl ?_
  refine mg_lve (lv' := [(0, _), (1, _), (3, _), (5, _)]) rfl ?_
  exact loop (N0 + 1) 0 (by omega) (by omega) (fun m' hm' => absurd hm' (Nat.not_lt_zero m'))
set_option maxHeartbeats 400000 in
set_option maxRecDepth 100000 in
theorem ct_X5_meets (E : En) (ad : Nat → Nat) (g : Nat → Int32) (a : Nat → Nat → Int32) (v : Nat → Int64) (tl : va_W) (kN sN : Nat) (B : Bs) (x f z : Nat) (hk : KS kN sN) (hI : MI kN sN B g a v) (hx : x < Cap kN sN) (hf : f < 8000 ∧ (B.1 = 0 ∨ f < B.1)) (hz : z < 512) : Ct E mX5_meets 1 0 0 [.ref (ad 17), .long (lN (emn kN x sN)), .int (nI f), .int (nI z)] (mw E ad g a v tl) (fun o w => ∃ (g1 : Nat → Int32) (a1 : Nat → Nat → Int32) (v1 : Nat → Int64), o = some (.int (bi (amt B x f z).1)) ∧ MI kN sN (amt B x f z).2 g1 a1 v1 ∧ (∀ i, i ≠ 14 → g1 i = g i) ∧ (∀ j, j ≠ 12 → j ≠ 14 → j ≠ 15 → a1 j = a j) ∧ w = mw E ad g1 a1 v1 tl) := by
  refine Ct.of (by decide) (Nat.le_of_ble_eq_true rfl) (fun X C hQ hin => ?_)
  have C : Cx E X cX5_meets 5 RX5 (some .boolean) 1 40 0 0 := C
  obtain ⟨i14, iB, i3, i4, i5, iH⟩ := id hI
  have iB8 := iB.1
  have seen : sn B.1 B.2.1 x = true → GG E X (mw E ad g a v tl) 0 0 5 [(0, .ref (ad 17)), (1, .long (lN (emn kN x sN))), (3, .int (nI f)), (4, .int (nI z))] [.int 0] := by
    intro hsn
    refine mg_if_ne C 10 dX5_meets_5 (by decide) (fun h5 => absurd h5 (fun hh => hh rfl)) (fun h5 => ?_)
    refine mg_iconst (v := 1) C dX5_meets_8 (by decide) ?_
    exact mg_zret C hQ (rfl) dX5_meets_9 (by
      rw [show amt B x f z = (true, B) from if_pos hsn]
      exact ⟨g, a, v, rfl, hI, fun _ _ => rfl, fun _ _ _ _ => rfl, rfl⟩)
  have fresh : ∀ a2 : Nat → Nat → Int32, sn B.1 B.2.1 x = false → (∀ j, j ≠ 15 → a2 j = a j) → (B.1 < 8000 → HT (B.1 + 1) (vp_updL v B.1 (lN (emn kN x sN))) (a2 15)) → (8000 ≤ B.1 → a2 15 = a 15) → GG E X (mw E ad g a2 v tl) 0 0 5 [(0, .ref (ad 17)), (1, .long (lN (emn kN x sN))), (3, .int (nI f)), (4, .int (nI z))] [.int 1] := by
    intro a2 hsn ho hh1 hh2
    refine mg_if_ne C 10 dX5_meets_5 (by decide) (fun h5 => ?_) (fun h5 => absurd h5 (by decide))
    refine mg_aload_n C dX5_meets_10 rfl ?_
    refine mg_get C inG_X5 fX5_149 (ci := 5) rfl rfl 17 rfl rfl dX5_meets_11 ?_
    refine mg_sipush (v := 8000) C dX5_meets_14 (by decide) ?_
    refine mg_icmp_ne C 22 dX5_meets_17 (by decide) (fun h17 => ?_) (fun h17 => ?_)
    · have hc8 : B.1 < 8000 := (by rcases Nat.lt_or_ge B.1 8000 with q | q; exact q; exact absurd (by rw [i14, show B.1 = 8000 by omega]; rfl) h17)
      have hin14 : vp_in (g 14) 8000 := (by rw [i14]; exact vp_in_nI hc8 (by decide))
      refine mg_aload_n C dX5_meets_22 rfl ?_
      refine mg_get C inG_X5 fX5_59 (ci := 5) rfl rfl 17 rfl rfl dX5_meets_23 ?_
      refine mg_aload_n C dX5_meets_26 rfl ?_
      refine mg_get C inG_X5 fX5_149 (ci := 5) rfl rfl 17 rfl rfl dX5_meets_27 ?_
      refine mg_lload_n C dX5_meets_30 rfl ?_
      refine mg_last C 4 rfl (hin14) dX5_meets_31 (ws' := (mw E ad g a2 (vp_updL v _ _) tl)) rfl ?_
      refine mg_aload_n C dX5_meets_32 rfl ?_
      refine mg_get C inG_X5 fX5_63 (ci := 5) rfl rfl 17 rfl rfl dX5_meets_33 ?_
      refine mg_aload_n C dX5_meets_36 rfl ?_
      refine mg_get C inG_X5 fX5_149 (ci := 5) rfl rfl 17 rfl rfl dX5_meets_37 ?_
      refine mg_iload_n C dX5_meets_40 rfl ?_
      refine mg_iast C 3 rfl (hin14) dX5_meets_41 (ws' := (mw E ad g (ups a2 12 _ (nI f)) (vp_updL v _ _) tl)) rfl ?_
      refine mg_aload_n C dX5_meets_42 rfl ?_
      refine mg_get C inG_X5 fX5_66 (ci := 5) rfl rfl 17 rfl rfl dX5_meets_43 ?_
      refine mg_aload_n C dX5_meets_46 rfl ?_
      refine mg_get C inG_X5 fX5_149 (ci := 5) rfl rfl 17 rfl rfl dX5_meets_47 ?_
      refine mg_iload C dX5_meets_50 rfl ?_
      refine mg_iast C 2 rfl (hin14) dX5_meets_52 (ws' := (mw E ad g (ups (ups a2 12 _ (nI f)) 14 _ (nI z)) (vp_updL v _ _) tl)) rfl ?_
      refine mg_aload_n C dX5_meets_53 rfl ?_
      refine mg_dup C dX5_meets_54 rfl ?_
      refine mg_get C inG_X5 fX5_149 (ci := 5) rfl rfl 17 rfl rfl dX5_meets_55 ?_
      refine mg_iconst (v := 1) C dX5_meets_58 (by decide) ?_
      refine mg_iadd C dX5_meets_59 ?_
      refine mg_topi (fun zv60 ezv60 => ?_)
      refine mg_put C inG_X5 fX5_149 (ci := 5) rfl rfl tyX5 tyX5_ok nmX5 rfl 17 rfl rfl rfl rfl dX5_meets_60 (ws' := (mw E ad (ug g 14 zv60) (ups (ups a2 12 _ (nI f)) 14 _ (nI z)) (vp_updL v _ _) tl)) rfl ?_
      refine mg_iconst (v := 1) C dX5_meets_63 (by decide) ?_
      exact mg_zret C hQ (rfl) dX5_meets_64 (by
      rw [show amt B x f z = (true, (B.1 + 1, un B.2.1 B.1 x, un B.2.2.1 B.1 f, un B.2.2.2 B.1 z)) from (if_neg (by rw [hsn]; decide)).trans (if_neg (by omega))]
      refine ⟨_, _, _, rfl, mi_add hI hx hf hz hc8 ho (hh1 hc8), fun i hi => ug_n hi, fun j h12 h14 h15 => (ups_n h14).trans ((ups_n h12).trans (ho j h15)), ?_⟩
      rw [ezv60]
      show mw E ad (ug g 14 (g 14 + 1)) _ _ tl = _
      rw [i14, nI_clamp (by omega : B.1 < 2 ^ 31)])
    · have hc8 : 8000 ≤ B.1 := (by rw [i14] at h17; have q := (nI_eq (b := 8000) (by omega) (by omega)).mp h17; omega)
      refine mg_iconst (v := 0) C dX5_meets_20 (by decide) ?_
      exact mg_zret C hQ (rfl) dX5_meets_21 (by
      rw [show amt B x f z = (false, B) from (if_neg (by rw [hsn]; decide)).trans (if_pos hc8)]
      exact ⟨g, a2, v, rfl, ⟨i14, iB, i3, fun i hi => by rw [ho 12 (by decide)]; exact i4 i hi, fun i hi => by rw [ho 14 (by decide)]; exact i5 i hi, by rw [hh2 hc8]; exact iH⟩, fun _ _ => rfl, fun j _ _ h15 => ho j h15, rfl⟩)
  refine mg_aload_n C dX5_meets_0 rfl ?_
  refine mg_lload_n C dX5_meets_1 rfl ?_
  refine mg_callV C (ct_X5_isNew E _ _ _ _ _ kN sN B x hk hI hx) oX5_152 17 rfl rfl rfl rfl rfl dX5_meets_2 (fun o2 w2 z2 => ?_)
  rcases z2 with ⟨hsn, rfl, rfl⟩ | ⟨hsn, rfl, a2, ho, hh1, hh2, rfl⟩
  · refine mg_v ?_
    exact seen hsn
  · refine mg_v ?_
    exact fresh a2 hsn ho hh1 hh2
set_option maxHeartbeats 400000 in
set_option maxRecDepth 100000 in
theorem ct_X5_tableOf (E : En) (ws : va_W) (e c : Nat) (he : e < 2 ^ 63) (hc : c < 8) : Ct E mX5_tableOf 0 0 0 [.long (lN e), .int (nI c)] ws (fun o w => o = some (.int (nI ((e >>> (8 * c)) &&& 255))) ∧ w = ws) := by
  refine Ct.of (by decide) (Nat.le_of_ble_eq_true rfl) (fun X C hQ hin => ?_)
  have C : Cx E X cX5_tableOf 3 RX5 (some .int) 0 0 0 0 := C
  refine mg_lload_n C dX5_tableOf_0 rfl ?_
  refine mg_bipush (v := 8) C dX5_tableOf_1 (by decide) ?_
  refine mg_iload_n C dX5_tableOf_3 rfl ?_
  refine mg_imul C dX5_tableOf_4 ?_
  refine mg_lshr C dX5_tableOf_5 ?_
  refine mg_l2i C dX5_tableOf_6 ?_
  refine mg_sipush (v := 255) C dX5_tableOf_7 (by decide) ?_
  refine mg_iand C dX5_tableOf_10 ?_
  exact mg_iret C hQ dX5_tableOf_11 (⟨by rw [show (8 : Int32) = nI 8 from rfl, pk_mul, ln_shr he (by omega), lN_i, show (255 : Int32) = nI 255 from rfl, ni_and], rfl⟩)
set_option maxHeartbeats 400000 in
set_option maxRecDepth 100000 in
theorem ct_X5_whereIs (E : En) (ws : va_W) (kN sN x w0 : Nat) (hk : KS kN sN) (hw0 : w0 < 256) : Ct E mX5_whereIs 1 0 0 [.long (lN (emn kN x sN)), .int (nI sN), .int (nI w0)] ws (fun o w => o = some (.int (fwi (fwc kN sN x w0 sN))) ∧ w = ws) := by
  refine Ct.of (by decide) (Nat.le_of_ble_eq_true rfl) (fun X C hQ hin => ?_)
  have C : Cx E X cX5_whereIs 5 RX5 (some .int) 1 40 0 0 := C
  have hk2 := hk
  obtain ⟨⟨hk1, hk3⟩, hks, hs5⟩ := hk2
  have loop : ∀ (m c : Nat), sN < c + m → c ≤ sN → fwc kN sN x w0 (sN - c) = fwc kN sN x w0 sN → GG E X ws 0 0 3 [(0, .long (lN (emn kN x sN))), (2, .int (nI sN)), (3, .int (nI w0)), (4, .int (nI c))] [] := by
    intro m
    induction m with
    | zero => intro c hm hc; omega
    | succ m ih =>
      intro c hm hc hf
      have htl := tabs_lt (x := x) (c := c) hk3
      refine mg_iload C dX5_whereIs_3 rfl ?_
      refine mg_iload_n C dX5_whereIs_5 rfl ?_
      refine mg_icmp_ge C 28 dX5_whereIs_6 (by decide) (fun h6 => ?_) (fun h6 => ?_)
      · have ec : c = sN := (by rcases Nat.lt_or_ge c sN with h | h; exact absurd h6 (nI_ge h (by omega)); omega)
        subst ec
        refine mg_iconst (v := (-1)) C dX5_whereIs_28 (by decide) ?_
        exact mg_iret C hQ dX5_whereIs_29 (⟨by rw [← hf, Nat.sub_self]; rfl, rfl⟩)
      · have hlt : c < sN := (by rcases Nat.lt_or_ge c sN with h | h; exact h; exact absurd (nI_le h (by omega)) h6)
        obtain ⟨m1, hm1⟩ : ∃ m1, sN - c = m1 + 1 := ⟨sN - c - 1, by omega⟩
        have ecs : sN - (m1 + 1) = c := by omega
        refine mg_lload_n C dX5_whereIs_9 rfl ?_
        refine mg_iload C dX5_whereIs_10 rfl ?_
        refine mg_callS C (ct_X5_tableOf E _ _ _ (emn_63 hk) (by omega)) oX5_156 rfl rfl rfl dX5_whereIs_12 (fun o12 w12 z12 => ?_)
        obtain ⟨rfl, rfl⟩ := z12
        refine mg_v ?_
        refine mg_tos (w := .int (nI (tabs kN x c))) (by rw [emn_tab hk3 hlt]) ?_
        refine mg_iload_n C dX5_whereIs_15 rfl ?_
        refine mg_icmp_ne C 22 dX5_whereIs_16 (by decide) (fun h16 => ?_) (fun h16 => ?_)
        · refine mg_iinc C dX5_whereIs_22 rfl rfl ?_
          refine mg_lve (lv' := [(0, _), (2, _), (3, _), (4, _)]) rfl ?_
          refine mg_goto C 3 dX5_whereIs_25 (by decide) ?_
          refine mg_lve (lv' := [(0, .long (lN (emn kN x sN))), (2, .int (nI sN)), (3, .int (nI w0)), (4, .int (nI (c + 1)))]) (by rw [nI_succ c]; rfl) ?_
          refine ih (c + 1) (by omega) (by omega) ?_
          rw [← hf, hm1, fwc, ecs, if_neg (fun e => h16 (by rw [e]))]
          congr 1; omega
        · refine mg_iload C dX5_whereIs_19 rfl ?_
          exact mg_iret C hQ dX5_whereIs_21 (⟨by rw [← hf, hm1, fwc, ecs, if_pos ((nI_eq (by omega) (by omega)).mp h16)]; rfl, rfl⟩)
  show GG E X ws 0 0 0 [(0, .long (lN (emn kN x sN))), (2, .int (nI sN)), (3, .int (nI w0))] []
  refine mg_iconst (v := 0) C dX5_whereIs_0 (by decide) ?_
  refine mg_istore C dX5_whereIs_1 rfl ?_
  exact loop (sN + 1) 0 (by omega) (by omega) rfl
set_option maxHeartbeats 1000000 in
set_option maxRecDepth 100000 in
theorem ct_X5_goesOn (E : En) (ad : Nat → Nat) (g : Nat → Int32) (a : Nat → Nat → Int32) (v : Nat → Int64) (tl : va_W) (kN sN : Nat) (B : Bs) (t0 : Nat) (hk : KS kN sN) (hI : MI kN sN B g a v) (ht0 : t0 < B.1) : Ct E mX5_goesOn 2 0 0 [.ref (ad 17), .int (nI t0), .int (nI kN), .int (nI sN), .int (nI (Mk kN))] (mw E ad g a v tl) (fun o w => ∃ (g1 : Nat → Int32) (a1 : Nat → Nat → Int32) (v1 : Nat → Int64), o = some (.int (bi (lpA kN sN t0 sN B).1)) ∧ MI kN sN (lpA kN sN t0 sN B).2 g1 a1 v1 ∧ (∀ i, i ≠ 14 → g1 i = g i) ∧ (∀ j, j ≠ 12 → j ≠ 14 → j ≠ 15 → a1 j = a j) ∧ w = mw E ad g1 a1 v1 tl) := by
  refine Ct.of (by decide) (Nat.le_of_ble_eq_true rfl) (fun X C hQ hin => ?_)
  have C : Cx E X cX5_goesOn 12 RX5 (some .boolean) 2 80 0 0 := C
  have hk2 := hk
  obtain ⟨⟨hk1, hk3⟩, hks, hs5⟩ := hk2
  obtain ⟨x, hxe⟩ : ∃ x, x = B.2.1 t0 := ⟨_, rfl⟩
  have hxc : x < Cap kN sN := (by rw [hxe]; exact (hI.2.1.2 t0 ht0).1)
  have loopC : ∀ (p q : Nat), p < sN → q < sN → ∀ (K : Bs → Bool × Bs), (∀ (B1 : Bs) (g1 : Nat → Int32) (a1 : Nat → Nat → Int32) (v1 : Nat → Int64), MI kN sN B1 g1 a1 v1 → t0 < B1.1 → B1.2.1 t0 = x → ((∀ i, i ≠ 14 → g1 i = g i) ∧ (∀ j, j ≠ 12 → j ≠ 14 → j ≠ 15 → a1 j = a j)) → K B1 = lpA kN sN t0 sN B → GG E X (mw E ad g1 a1 v1 tl) 0 0 136 [(0, .ref (ad 17)), (1, .int (nI t0)), (2, .int (nI kN)), (3, .int (nI sN)), (4, .int (nI (Mk kN))), (5, .int (nI p)), (6, .int (nI q)), (7, .int (nI sN))] []) → ∀ (m c : Nat) (B1 : Bs) (g1 : Nat → Int32) (a1 : Nat → Nat → Int32) (v1 : Nat → Int64), sN < c + m → kN ≤ c → c ≤ sN → MI kN sN B1 g1 a1 v1 → t0 < B1.1 → B1.2.1 t0 = x → ((∀ i, i ≠ 14 → g1 i = g i) ∧ (∀ j, j ≠ 12 → j ≠ 14 → j ≠ 15 → a1 j = a j)) → thn (lpC kN sN t0 p q (sN - c) B1) K = lpA kN sN t0 sN B → GG E X (mw E ad g1 a1 v1 tl) 0 0 22 [(0, .ref (ad 17)), (1, .int (nI t0)), (2, .int (nI kN)), (3, .int (nI sN)), (4, .int (nI (Mk kN))), (5, .int (nI p)), (6, .int (nI q)), (7, .int (nI c))] [] := by
    intro p q hp hq K out m
    induction m with
    | zero => intro c B1 g1 a1 v1 hm hkc hc; omega
    | succ m ih =>
      intro c B1 g1 a1 v1 hm hkc hc hI1 hB1t hB1x hfr hl1
      obtain ⟨j14, jB, j3, j4, j5, j6⟩ := id hI1
      have jB8 := jB.1
      refine mg_iload C dX5_goesOn_22 rfl ?_
      refine mg_iload_n C dX5_goesOn_24 rfl ?_
      refine mg_icmp_ge C 136 dX5_goesOn_25 (by decide) (fun h25 => ?_) (fun h25 => ?_)
      · have ec : c = sN := (by rcases Nat.lt_or_ge c sN with h | h; exact absurd h25 (nI_ge h (by omega)); omega)
        subst ec
        exact out B1 g1 a1 v1 hI1 hB1t hB1x hfr (by rw [← hl1, Nat.sub_self]; rfl)
      · have hlt : c < sN := (by rcases Nat.lt_or_ge c sN with h | h; exact h; exact absurd (nI_le h (by omega)) h25)
        obtain ⟨m1, hm1⟩ : ∃ m1, sN - c = m1 + 1 := ⟨sN - c - 1, by omega⟩
        have ecs : sN - (m1 + 1) = c := by omega
        refine mg_iload C dX5_goesOn_28 rfl ?_
        refine mg_iload C dX5_goesOn_30 rfl ?_
        refine mg_icmp_eq C 130 dX5_goesOn_32 (by decide) (fun h32 => ?_) (fun h32 => ?_)
        · refine mg_iinc C dX5_goesOn_130 rfl rfl ?_
          refine mg_lve (lv' := [(0, _), (1, _), (2, _), (3, _), (4, _), (5, _), (6, _), (7, _)]) rfl ?_
          refine mg_goto C 22 dX5_goesOn_133 (by decide) ?_
          refine mg_lve (lv' := [(0, .ref (ad 17)), (1, .int (nI t0)), (2, .int (nI kN)), (3, .int (nI sN)), (4, .int (nI (Mk kN))), (5, .int (nI p)), (6, .int (nI q)), (7, .int (nI (c + 1)))]) (by rw [nI_succ c]; rfl) ?_
          refine ih (c + 1) B1 _ _ _ (by omega) (by omega) (by omega) hI1 hB1t hB1x hfr ?_
          rw [← hl1, hm1, lpC_skip (by rw [ecs]; exact Or.inl ((nI_eq (by omega) (by omega)).mp h32))]
          rw [show sN - (c + 1) = m1 by omega]
        · refine mg_iload C dX5_goesOn_35 rfl ?_
          refine mg_iload C dX5_goesOn_37 rfl ?_
          refine mg_icmp_eq C 130 dX5_goesOn_39 (by decide) (fun h39 => ?_) (fun h39 => ?_)
          · refine mg_iinc C dX5_goesOn_130 rfl rfl ?_
            refine mg_lve (lv' := [(0, _), (1, _), (2, _), (3, _), (4, _), (5, _), (6, _), (7, _)]) rfl ?_
            refine mg_goto C 22 dX5_goesOn_133 (by decide) ?_
            refine mg_lve (lv' := [(0, .ref (ad 17)), (1, .int (nI t0)), (2, .int (nI kN)), (3, .int (nI sN)), (4, .int (nI (Mk kN))), (5, .int (nI p)), (6, .int (nI q)), (7, .int (nI (c + 1)))]) (by rw [nI_succ c]; rfl) ?_
            refine ih (c + 1) B1 _ _ _ (by omega) (by omega) (by omega) hI1 hB1t hB1x hfr ?_
            rw [← hl1, hm1, lpC_skip (by rw [ecs]; exact Or.inr ((nI_eq (by omega) (by omega)).mp h39))]
            rw [show sN - (c + 1) = m1 by omega]
          · have hncp : ¬ c = p := fun e => h32 (by rw [e])
            have hncq : ¬ c = q := fun e => h39 (by rw [e])
            have hno : ¬ (sN - (m1 + 1) = p ∨ sN - (m1 + 1) = q) := (by rw [ecs]; exact fun h => h.elim hncp hncq)
            have hint0 : vp_in (nI t0) 8000 := vp_in_nI (by omega) (by decide)
            refine mg_iload C dX5_goesOn_42 rfl ?_
            refine mg_aload_n C dX5_goesOn_44 rfl ?_
            refine mg_get C inG_X5 fX5_59 (ci := 5) rfl rfl 17 rfl rfl dX5_goesOn_45 ?_
            refine mg_iload_n C dX5_goesOn_48 rfl ?_
            refine mg_lald C 4 rfl (hint0) dX5_goesOn_49 ?_
            refine mg_tos (w := .long (lN (emn kN x sN))) (by rw [nI_clamp (by omega), j3 t0 hB1t, hB1x]) ?_
            refine mg_iload C dX5_goesOn_50 rfl ?_
            refine mg_callS C (ct_X5_tableOf E _ _ _ (emn_63 hk) (by omega)) oX5_156 rfl rfl rfl dX5_goesOn_52 (fun o52 w52 z52 => ?_)
            obtain ⟨rfl, rfl⟩ := z52
            refine mg_v ?_
            refine mg_tos (w := .int (nI (tabs kN x p))) (by rw [emn_tab hk3 hp]) ?_
            refine mg_aload_n C dX5_goesOn_55 rfl ?_
            refine mg_get C inG_X5 fX5_59 (ci := 5) rfl rfl 17 rfl rfl dX5_goesOn_56 ?_
            refine mg_iload_n C dX5_goesOn_59 rfl ?_
            refine mg_lald C 4 rfl (hint0) dX5_goesOn_60 ?_
            refine mg_tos (w := .long (lN (emn kN x sN))) (by rw [nI_clamp (by omega), j3 t0 hB1t, hB1x]) ?_
            refine mg_iload C dX5_goesOn_61 rfl ?_
            refine mg_callS C (ct_X5_tableOf E _ _ _ (emn_63 hk) (by omega)) oX5_156 rfl rfl rfl dX5_goesOn_63 (fun o63 w63 z63 => ?_)
            obtain ⟨rfl, rfl⟩ := z63
            refine mg_v ?_
            refine mg_tos (w := .int (nI (tabs kN x q))) (by rw [emn_tab hk3 hq]) ?_
            refine mg_ior C dX5_goesOn_66 ?_
            refine mg_iconst (v := (-1)) C dX5_goesOn_67 (by decide) ?_
            refine mg_ixor C dX5_goesOn_68 ?_
            refine mg_iand C dX5_goesOn_69 ?_
            refine mg_tos (w := .int (nI (nei kN x p q))) (by rw [ni_or, ni_m1, ni_xor, ni_and, Nat.and_comm]; rfl) ?_
            refine mg_i2l C dX5_goesOn_70 ?_
            refine mg_tos (w := .long (lN (nei kN x p q))) (by rw [nI_l (by have h5 := nei_lt256 (k := kN) (x := x) (p := p) (q := q) hk3; omega)]) ?_
            refine mg_lstore C dX5_goesOn_71 rfl ?_
            refine mg_lve (lv' := [(0, _), (1, _), (2, _), (3, _), (4, _), (5, _), (6, _), (7, _), (8, _)]) rfl ?_
            refine mg_aload_n C dX5_goesOn_73 rfl ?_
            refine mg_get C inG_X5 fX5_59 (ci := 5) rfl rfl 17 rfl rfl dX5_goesOn_74 ?_
            refine mg_iload_n C dX5_goesOn_77 rfl ?_
            refine mg_lald C 4 rfl (hint0) dX5_goesOn_78 ?_
            refine mg_tos (w := .long (lN (emn kN x sN))) (by rw [nI_clamp (by omega), j3 t0 hB1t, hB1x]) ?_
            refine mg_ldc2 C dX5_goesOn_79 kX5_163 ?_
            refine mg_bipush (v := 8) C dX5_goesOn_82 (by decide) ?_
            refine mg_iload C dX5_goesOn_84 rfl ?_
            refine mg_imul C dX5_goesOn_86 ?_
            refine mg_lshl C dX5_goesOn_87 ?_
            refine mg_tos (w := .long (lN (255 <<< (8 * c)))) (by rw [show (8 : Int32) = nI 8 from rfl, pk_mul, show (255 : Int64) = lN 255 from rfl, ln_shl (by omega)]) ?_
            refine mg_ldc2 C dX5_goesOn_88 kX5_165 ?_
            refine mg_lxor C dX5_goesOn_91 ?_
            refine mg_tos (w := .long (lN ((255 <<< (8 * c)) ^^^ 18446744073709551615))) (by rw [ln_m1, ln_xor]) ?_
            refine mg_land C dX5_goesOn_92 ?_
            refine mg_tos (w := .long (lN (emn kN x sN &&& ((255 <<< (8 * c)) ^^^ 18446744073709551615)))) (by rw [ln_and]) ?_
            refine mg_lload C dX5_goesOn_93 rfl ?_
            refine mg_bipush (v := 8) C dX5_goesOn_95 (by decide) ?_
            refine mg_iload C dX5_goesOn_97 rfl ?_
            refine mg_imul C dX5_goesOn_99 ?_
            refine mg_lshl C dX5_goesOn_100 ?_
            refine mg_tos (w := .long (lN (nei kN x p q <<< (8 * c)))) (by rw [show (8 : Int32) = nI 8 from rfl, pk_mul, ln_shl (by omega)]) ?_
            refine mg_lor C dX5_goesOn_101 ?_
            refine mg_tos (w := .long (lN (emn kN (nxt kN x p q c) sN))) (by rw [ln_or, emn_nxt hk hxc hkc hlt]) ?_
            refine mg_lstore C dX5_goesOn_102 rfl ?_
            refine mg_lve (lv' := [(0, _), (1, _), (2, _), (3, _), (4, _), (5, _), (6, _), (7, _), (8, _), (10, _)]) rfl ?_
            refine mg_aload_n C dX5_goesOn_104 rfl ?_
            refine mg_lload C dX5_goesOn_105 rfl ?_
            refine mg_iload_n C dX5_goesOn_107 rfl ?_
            refine mg_bipush (v := 64) C dX5_goesOn_108 (by decide) ?_
            refine mg_iload C dX5_goesOn_110 rfl ?_
            refine mg_imul C dX5_goesOn_112 ?_
            refine mg_bipush (v := 8) C dX5_goesOn_113 (by decide) ?_
            refine mg_iload C dX5_goesOn_115 rfl ?_
            refine mg_imul C dX5_goesOn_117 ?_
            refine mg_iadd C dX5_goesOn_118 ?_
            refine mg_iload C dX5_goesOn_119 rfl ?_
            refine mg_iadd C dX5_goesOn_121 ?_
            refine mg_tos (w := .int (nI (64 * p + 8 * q + c))) (by rw [show (64 : Int32) = nI 64 from rfl, show (8 : Int32) = nI 8 from rfl, pk_mul, pk_mul, nI_add, nI_add]) ?_
            refine mg_callV C (ct_X5_meets E _ _ _ _ _ kN sN B1 (nxt kN x p q c) t0 (64 * p + 8 * q + c) hk hI1 (nxt_lt hk hxc hkc hlt) ⟨by omega, Or.inr hB1t⟩ (by omega)) oX5_167 17 rfl rfl rfl rfl rfl dX5_goesOn_122 (fun o122 w122 z122 => ?_)
            obtain ⟨g2, a2, v2, rfl, hI2, hg2, ha2, rfl⟩ := z122
            refine mg_v ?_
            refine mg_if_ne C 130 dX5_goesOn_125 (by decide) (fun h125 => ?_) (fun h125 => ?_)
            · refine mg_iinc C dX5_goesOn_130 rfl rfl ?_
              refine mg_lve (lv' := [(0, _), (1, _), (2, _), (3, _), (4, _), (5, _), (6, _), (7, _), (8, _), (10, _)]) rfl ?_
              refine mg_goto C 22 dX5_goesOn_133 (by decide) ?_
              refine mg_lv (lv' := [(0, .ref (ad 17)), (1, .int (nI t0)), (2, .int (nI kN)), (3, .int (nI sN)), (4, .int (nI (Mk kN))), (5, .int (nI p)), (6, .int (nI q)), (7, .int (nI (c + 1)))]) (lv_tk 8 (by rw [nI_succ c]; rfl)) ?_
              have ha := bi1 h125
              rw [← hB1x] at ha hI2
              obtain ⟨ht2, hx2⟩ := amt_t (x := nxt kN (B1.2.1 t0) p q c) (f := t0) (z := 64 * p + 8 * q + c) hB1t
              refine ih (c + 1) _ _ _ _ (by omega) (by omega) (by omega) hI2 ht2 (hx2.trans hB1x) ⟨fun i hi => (hg2 i hi).trans (hfr.1 i hi), fun j h1 h2 h3 => (ha2 j h1 h2 h3).trans (hfr.2 j h1 h2 h3)⟩ ?_
              rw [← hl1, hm1, lpC_go hno (by rw [ecs]; exact ha), ecs]
              rw [show sN - (c + 1) = m1 by omega]
            · refine mg_iconst (v := 0) C dX5_goesOn_128 (by decide) ?_
              exact mg_zret C hQ (rfl) dX5_goesOn_129 (by
          have ha := bi0 h125
          rw [← hB1x] at ha hI2
          have e9 : lpA kN sN t0 sN B = (false, (amt B1 (nxt kN (B1.2.1 t0) p q c) t0 (64 * p + 8 * q + c)).2) := (by rw [← hl1, hm1, lpC_end hno (by rw [ecs]; exact ha), ecs]; rfl)
          rw [e9]
          exact ⟨_, _, _, rfl, hI2, fun i hi => (hg2 i hi).trans (hfr.1 i hi), fun j h1 h2 h3 => (ha2 j h1 h2 h3).trans (hfr.2 j h1 h2 h3), rfl⟩)
  have loopB : ∀ (p : Nat), p < sN → ∀ (K : Bs → Bool × Bs), (∀ (B1 : Bs) (g1 : Nat → Int32) (a1 : Nat → Nat → Int32) (v1 : Nat → Int64), MI kN sN B1 g1 a1 v1 → t0 < B1.1 → B1.2.1 t0 = x → ((∀ i, i ≠ 14 → g1 i = g i) ∧ (∀ j, j ≠ 12 → j ≠ 14 → j ≠ 15 → a1 j = a j)) → K B1 = lpA kN sN t0 sN B → GG E X (mw E ad g1 a1 v1 tl) 0 0 142 [(0, .ref (ad 17)), (1, .int (nI t0)), (2, .int (nI kN)), (3, .int (nI sN)), (4, .int (nI (Mk kN))), (5, .int (nI p)), (6, .int (nI sN))] []) → ∀ (m q : Nat) (B1 : Bs) (g1 : Nat → Int32) (a1 : Nat → Nat → Int32) (v1 : Nat → Int64), sN < q + m → q ≤ sN → MI kN sN B1 g1 a1 v1 → t0 < B1.1 → B1.2.1 t0 = x → ((∀ i, i ≠ 14 → g1 i = g i) ∧ (∀ j, j ≠ 12 → j ≠ 14 → j ≠ 15 → a1 j = a j)) → thn (lpB kN sN t0 p (sN - q) B1) K = lpA kN sN t0 sN B → GG E X (mw E ad g1 a1 v1 tl) 0 0 13 [(0, .ref (ad 17)), (1, .int (nI t0)), (2, .int (nI kN)), (3, .int (nI sN)), (4, .int (nI (Mk kN))), (5, .int (nI p)), (6, .int (nI q))] [] := by
    intro p hpS K out m
    induction m with
    | zero => intro q B1 g1 a1 v1 hm hq; omega
    | succ m ih =>
      intro q B1 g1 a1 v1 hm hq hI1 hB1t hB1x hfr hl1
      refine mg_iload C dX5_goesOn_13 rfl ?_
      refine mg_iload_n C dX5_goesOn_15 rfl ?_
      refine mg_icmp_ge C 142 dX5_goesOn_16 (by decide) (fun h16 => ?_) (fun h16 => ?_)
      · have ec : q = sN := (by rcases Nat.lt_or_ge q sN with h | h; exact absurd h16 (nI_ge h (by omega)); omega)
        subst ec
        exact out B1 g1 a1 v1 hI1 hB1t hB1x hfr (by rw [← hl1, Nat.sub_self]; rfl)
      · have hlt : q < sN := (by rcases Nat.lt_or_ge q sN with h | h; exact h; exact absurd (nI_le h (by omega)) h16)
        obtain ⟨m1, hm1⟩ : ∃ m1, sN - q = m1 + 1 := ⟨sN - q - 1, by omega⟩
        have ecs : sN - (m1 + 1) = q := by omega
        refine mg_iload_n C dX5_goesOn_19 rfl ?_
        refine mg_istore C dX5_goesOn_20 rfl ?_
        refine mg_lve (lv' := [(0, _), (1, _), (2, _), (3, _), (4, _), (5, _), (6, _), (7, _)]) rfl ?_
        refine loopC p q hpS hlt (fun B => thn (lpB kN sN t0 p m1 B) K) (fun B2 g2 a2 v2 hI2 hB2t hB2x hfr2 hl2 => ?_) (sN + 1) kN B1 g1 a1 v1 (by omega) (Nat.le_refl _) hks hI1 hB1t hB1x hfr (by rw [← hl1, hm1, lpB_s, ecs, thn_thn])
        refine mg_iinc C dX5_goesOn_136 rfl rfl ?_
        refine mg_goto C 13 dX5_goesOn_139 (by decide) ?_
        refine mg_lv (lv' := [(0, .ref (ad 17)), (1, .int (nI t0)), (2, .int (nI kN)), (3, .int (nI sN)), (4, .int (nI (Mk kN))), (5, .int (nI p)), (6, .int (nI (q + 1)))]) (lv_tk 7 (by rw [nI_succ q]; rfl)) ?_
        refine ih (q + 1) B2 g2 a2 v2 (by omega) (by omega) hI2 hB2t hB2x hfr2 ?_
        rw [← hl2]
        rw [show sN - (q + 1) = m1 by omega]
  have loopA : ∀ (m p : Nat) (B1 : Bs) (g1 : Nat → Int32) (a1 : Nat → Nat → Int32) (v1 : Nat → Int64), sN < p + m → p ≤ sN → MI kN sN B1 g1 a1 v1 → t0 < B1.1 → B1.2.1 t0 = x → ((∀ i, i ≠ 14 → g1 i = g i) ∧ (∀ j, j ≠ 12 → j ≠ 14 → j ≠ 15 → a1 j = a j)) → lpA kN sN t0 (sN - p) B1 = lpA kN sN t0 sN B → GG E X (mw E ad g1 a1 v1 tl) 0 0 3 [(0, .ref (ad 17)), (1, .int (nI t0)), (2, .int (nI kN)), (3, .int (nI sN)), (4, .int (nI (Mk kN))), (5, .int (nI p))] [] := by
    intro m
    induction m with
    | zero => intro p B1 g1 a1 v1 hm hp; omega
    | succ m ih =>
      intro p B1 g1 a1 v1 hm hp hI1 hB1t hB1x hfr hl1
      refine mg_iload C dX5_goesOn_3 rfl ?_
      refine mg_iload_n C dX5_goesOn_5 rfl ?_
      refine mg_icmp_ge C 148 dX5_goesOn_6 (by decide) (fun h6 => ?_) (fun h6 => ?_)
      · have ec : p = sN := (by rcases Nat.lt_or_ge p sN with h | h; exact absurd h6 (nI_ge h (by omega)); omega)
        subst ec
        refine mg_iconst (v := 1) C dX5_goesOn_148 (by decide) ?_
        exact mg_zret C hQ (rfl) dX5_goesOn_149 (⟨g1, a1, v1, by rw [← hl1, Nat.sub_self]; rfl, by rw [← hl1, Nat.sub_self]; exact hI1, hfr.1, hfr.2, rfl⟩)
      · have hlt : p < sN := (by rcases Nat.lt_or_ge p sN with h | h; exact h; exact absurd (nI_le h (by omega)) h6)
        obtain ⟨m1, hm1⟩ : ∃ m1, sN - p = m1 + 1 := ⟨sN - p - 1, by omega⟩
        have ecs : sN - (m1 + 1) = p := by omega
        refine mg_iload C dX5_goesOn_9 rfl ?_
        refine mg_istore C dX5_goesOn_11 rfl ?_
        refine mg_lve (lv' := [(0, _), (1, _), (2, _), (3, _), (4, _), (5, _), (6, _)]) rfl ?_
        refine loopB p hlt (lpA kN sN t0 m1) (fun B2 g2 a2 v2 hI2 hB2t hB2x hfr2 hl2 => ?_) (sN + 1) p B1 g1 a1 v1 (by omega) (by omega) hI1 hB1t hB1x hfr (by rw [← hl1, hm1, lpA_s, ecs])
        refine mg_iinc C dX5_goesOn_142 rfl rfl ?_
        refine mg_goto C 3 dX5_goesOn_145 (by decide) ?_
        refine mg_lv (lv' := [(0, .ref (ad 17)), (1, .int (nI t0)), (2, .int (nI kN)), (3, .int (nI sN)), (4, .int (nI (Mk kN))), (5, .int (nI (p + 1)))]) (lv_tk 6 (by rw [nI_succ p]; rfl)) ?_
        refine ih (p + 1) B2 g2 a2 v2 (by omega) (by omega) hI2 hB2t hB2x hfr2 ?_
        rw [← hl2]
        rw [show sN - (p + 1) = m1 by omega]
  show GG E X (mw E ad g a v tl) 0 0 0 [(0, .ref (ad 17)), (1, .int (nI t0)), (2, .int (nI kN)), (3, .int (nI sN)), (4, .int (nI (Mk kN)))] []
  refine mg_iconst (v := 0) C dX5_goesOn_0 (by decide) ?_
  refine mg_istore C dX5_goesOn_1 rfl ?_
  exact loopA (sN + 1) 0 B g a v (by omega) (by omega) hI ht0 hxe.symm ⟨fun _ _ => rfl, fun _ _ _ _ => rfl⟩ rfl
set_option maxHeartbeats 400000 in
set_option maxRecDepth 100000 in
theorem ct_X5_becomesFound (E : En) (ad : Nat → Nat) (g : Nat → Int32) (a : Nat → Nat → Int32) (v : Nat → Int64) (tl : va_W) (kN sN : Nat) (B : Bs) (t0 : Nat) (c0 : Int32) (hI : MI kN sN B g a v) (ht0 : t0 < B.1) : Ct E mX5_becomesFound 0 0 0 [.ref (ad 17), .int (nI t0), .int c0] (mw E ad g a v tl) (fun o w => ∃ (g1 : Nat → Int32) (a1 : Nat → Nat → Int32), o = none ∧ g1 15 = nI (dpt B.2.2.1 t0 t0) ∧ g1 16 = c0 ∧ (∀ i, i ≠ 15 → i ≠ 16 → g1 i = g i) ∧ (∀ j, j ≠ 13 → a1 j = a j) ∧ w = mw E ad g1 a1 v tl) := by
  refine Ct.of (by decide) (Nat.le_of_ble_eq_true rfl) (fun X C hQ hin => ?_)
  have C : Cx E X cX5_becomesFound 5 RX5 none 0 0 0 0 := C
  obtain ⟨i14, iB, i3, i4, i5, i6⟩ := id hI
  have iB8 := iB.1
  have hF : ∀ i, i ≤ t0 → i = 0 ∨ B.2.2.1 i < i := fun i hi => (iB.2 i (by omega)).2.2.1
  obtain ⟨D, hD⟩ : ∃ D, D = dpt B.2.2.1 t0 t0 := ⟨_, rfl⟩
  have hDle : D ≤ t0 := (by rw [hD]; exact dpt_le hF t0 t0 (Nat.le_refl _) (Nat.le_refl _))
  have loop2 : ∀ (m x : Nat) (a1 : Nat → Nat → Int32), x < m → x ≤ t0 → dpt B.2.2.1 x x ≤ D → (∀ j, j ≠ 13 → a1 j = a j) → GG E X (mw E ad (ug (ug g 16 c0) 15 (nI D)) a1 v tl) 0 0 44 [(0, .ref (ad 17)), (1, .int (nI t0)), (2, .int c0), (3, .int (nI (dpt B.2.2.1 x x))), (4, .int (nI x))] [] := by
    intro m
    induction m with
    | zero => intro x a1 hm; omega
    | succ m ih =>
      intro x a1 hm hx hdD ho
      refine mg_iload C dX5_becomesFound_44 rfl ?_
      refine mg_if_le C 77 dX5_becomesFound_46 (by decide) (fun h46 => ?_) (fun h46 => ?_)
      · exact mg_vret C hQ dX5_becomesFound_77 (⟨(ug (ug g 16 c0) 15 (nI D)), a1, rfl, by rw [← hD]; rfl, rfl, fun i h1 h2 => (ug_n h1).trans (ug_n h2), ho, rfl⟩)
      · have hx0 : x ≠ 0 := (by intro e; rw [e] at h46; exact h46 (Int32.le_refl 0))
        have hin4 : vp_in (nI x) 8000 := vp_in_nI (by omega) (by decide)
        have hFx : B.2.2.1 x < x := (hF x hx).resolve_left hx0
        have hdx := dpt_s hF hx hx0
        have er : nI (dpt B.2.2.1 x x) + Int32.ofInt (-1) = nI (dpt B.2.2.1 (B.2.2.1 x) (B.2.2.1 x)) := (by rw [hdx]; exact (sub1 _).trans (nI_pred _))
        refine mg_iinc C dX5_becomesFound_49 rfl rfl ?_
        refine mg_lve (lv' := [(0, _), (1, _), (2, _), (3, _), (4, _)]) rfl ?_
        refine mg_lve (lv' := [(0, .ref (ad 17)), (1, .int (nI t0)), (2, .int c0), (3, .int (nI (dpt B.2.2.1 (B.2.2.1 x) (B.2.2.1 x)))), (4, .int (nI x))]) (by rw [er]) ?_
        have hin3 : vp_in (nI (dpt B.2.2.1 (B.2.2.1 x) (B.2.2.1 x))) 8000 := vp_in_nI (by omega) (by decide)
        refine mg_aload_n C dX5_becomesFound_52 rfl ?_
        refine mg_get C inG_X5 fX5_72 (ci := 5) rfl rfl 17 rfl rfl dX5_becomesFound_53 ?_
        refine mg_iload_n C dX5_becomesFound_56 rfl ?_
        refine mg_aload_n C dX5_becomesFound_57 rfl ?_
        refine mg_get C inG_X5 fX5_66 (ci := 5) rfl rfl 17 rfl rfl dX5_becomesFound_58 ?_
        refine mg_iload C dX5_becomesFound_61 rfl ?_
        refine mg_iald C 2 rfl (hin4) dX5_becomesFound_63 ?_
        refine mg_topi (fun zv64 ezv64 => ?_)
        refine mg_iast C 0 rfl (hin3) dX5_becomesFound_64 (ws' := (mw E ad (ug (ug g 16 c0) 15 (nI D)) (ups a1 13 _ zv64) v tl)) rfl ?_
        refine mg_aload_n C dX5_becomesFound_65 rfl ?_
        refine mg_get C inG_X5 fX5_63 (ci := 5) rfl rfl 17 rfl rfl dX5_becomesFound_66 ?_
        refine mg_iload C dX5_becomesFound_69 rfl ?_
        refine mg_iald C 3 rfl (hin4) dX5_becomesFound_71 ?_
        refine mg_tos (w := .int (nI (B.2.2.1 x))) (by show Value.int (a1 12 _) = _; rw [ho 12 (by decide), nI_clamp (by omega), i4 x (by omega)]) ?_
        refine mg_istore C dX5_becomesFound_72 rfl ?_
        refine mg_lve (lv' := [(0, _), (1, _), (2, _), (3, _), (4, _)]) rfl ?_
        refine mg_goto C 44 dX5_becomesFound_74 (by decide) ?_
        refine ih (B.2.2.1 x) _ (by omega) (by omega) (by omega) (fun j hj => (ups_n hj).trans (ho j hj))
  have loop1 : ∀ (m x n : Nat), x < m → x ≤ t0 → n + dpt B.2.2.1 x x = D → GG E X (mw E ad (ug (ug g 16 c0) 15 (nI n)) a v tl) 0 0 12 [(0, .ref (ad 17)), (1, .int (nI t0)), (2, .int c0), (3, .int (nI x))] [] := by
    intro m
    induction m with
    | zero => intro x n hm; omega
    | succ m ih =>
      intro x n hm hx hn
      refine mg_iload_n C dX5_becomesFound_12 rfl ?_
      refine mg_if_le C 36 dX5_becomesFound_13 (by decide) (fun h13 => ?_) (fun h13 => ?_)
      · have ex : x = 0 := (by rcases Nat.eq_zero_or_pos x with q | q; exact q; exact absurd h13 (nI_nle q (by omega)))
        subst ex
        have en : n = D := (by rw [← hn]; rfl)
        subst en
        refine mg_aload_n C dX5_becomesFound_36 rfl ?_
        refine mg_get C inG_X5 fX5_160 (ci := 5) rfl rfl 17 rfl rfl dX5_becomesFound_37 ?_
        refine mg_istore_n C dX5_becomesFound_40 rfl ?_
        refine mg_lve (lv' := [(0, _), (1, _), (2, _), (3, _)]) rfl ?_
        refine mg_iload_n C dX5_becomesFound_41 rfl ?_
        refine mg_istore C dX5_becomesFound_42 rfl ?_
        refine mg_lve (lv' := [(0, _), (1, _), (2, _), (3, _), (4, _)]) rfl ?_
        refine mg_lve (lv' := [(0, .ref (ad 17)), (1, .int (nI t0)), (2, .int c0), (3, .int (nI (dpt B.2.2.1 t0 t0))), (4, .int (nI t0))]) (by rw [← hD]; rfl) ?_
        exact loop2 (t0 + 1) t0 a (by omega) (Nat.le_refl _) (by rw [hD]; exact Nat.le_refl _) (fun _ _ => rfl)
      · have hx0 : x ≠ 0 := (by intro e; rw [e] at h13; exact h13 (Int32.le_refl 0))
        have hin3 : vp_in (nI x) 8000 := vp_in_nI (by omega) (by decide)
        have hFx : B.2.2.1 x < x := (hF x hx).resolve_left hx0
        have hdx := dpt_s hF hx hx0
        refine mg_aload_n C dX5_becomesFound_16 rfl ?_
        refine mg_dup C dX5_becomesFound_17 rfl ?_
        refine mg_get C inG_X5 fX5_160 (ci := 5) rfl rfl 17 rfl rfl dX5_becomesFound_18 ?_
        refine mg_iconst (v := 1) C dX5_becomesFound_21 (by decide) ?_
        refine mg_iadd C dX5_becomesFound_22 ?_
        refine mg_tos (w := .int (nI (n + 1))) (congrArg Value.int (nI_1 n)) ?_
        refine mg_put C inG_X5 fX5_160 (ci := 5) rfl rfl tyX5 tyX5_ok nmX5 rfl 17 rfl rfl rfl rfl dX5_becomesFound_23 (ws' := (mw E ad (ug (ug (ug g 16 c0) 15 (nI n)) 15 (nI (n + 1))) a v tl)) rfl ?_
        refine mg_aload_n C dX5_becomesFound_26 rfl ?_
        refine mg_get C inG_X5 fX5_63 (ci := 5) rfl rfl 17 rfl rfl dX5_becomesFound_27 ?_
        refine mg_iload_n C dX5_becomesFound_30 rfl ?_
        refine mg_iald C 3 rfl (hin3) dX5_becomesFound_31 ?_
        refine mg_tos (w := .int (nI (B.2.2.1 x))) (by rw [nI_clamp (by omega), i4 x (by omega)]) ?_
        refine mg_istore_n C dX5_becomesFound_32 rfl ?_
        refine mg_lve (lv' := [(0, _), (1, _), (2, _), (3, _)]) rfl ?_
        refine mg_goto C 12 dX5_becomesFound_33 (by decide) ?_
        refine mg_ws (ws' := mw E ad (ug (ug g 16 c0) 15 (nI (n + 1))) a v tl) ?_ ?_
        · exact congrArg (fun z => mw E ad z a v tl) (ug2 _ _ _ _)
        · exact ih (B.2.2.1 x) (n + 1) (by omega) (by omega) (by omega)
  refine mg_aload_n C dX5_becomesFound_0 rfl ?_
  refine mg_iload_n C dX5_becomesFound_1 rfl ?_
  refine mg_put C inG_X5 fX5_75 (ci := 5) rfl rfl tyX5 tyX5_ok nmX5 rfl 17 rfl rfl rfl rfl dX5_becomesFound_2 (ws' := (mw E ad (ug g 16 c0) a v tl)) rfl ?_
  refine mg_aload_n C dX5_becomesFound_5 rfl ?_
  refine mg_iconst (v := 0) C dX5_becomesFound_6 (by decide) ?_
  refine mg_put C inG_X5 fX5_160 (ci := 5) rfl rfl tyX5 tyX5_ok nmX5 rfl 17 rfl rfl rfl rfl dX5_becomesFound_7 (ws' := (mw E ad (ug (ug g 16 c0) 15 0) a v tl)) rfl ?_
  refine mg_iload_n C dX5_becomesFound_10 rfl ?_
  refine mg_istore_n C dX5_becomesFound_11 rfl ?_
  refine mg_lve (lv' := [(0, _), (1, _), (2, _), (3, _)]) rfl ?_
  exact loop1 (t0 + 1) t0 0 (by omega) (Nat.le_refl _) (by omega)
