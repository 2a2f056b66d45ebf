set_option maxHeartbeats 400000 in
set_option maxRecDepth 100000 in
theorem fm_main (E : En) (ad : Nat → Nat) (g : Nat → Int32) (a : Nat → Nat → Int32) (v : Nat → Int64) (tl : va_W) (kN sN w0 : Nat) (hk : KS kN sN) (hw0 : w0 < 256) (X : Fx) (C : Cx E X cX5_find 9 RX5 (some .int) 3 120 0 0) (hQ : Rt E X (fun o w => ∃ (g1 : Nat → Int32) (a1 : Nat → Nat → Int32) (v1 : Nat → Int64), o = some (.int (skA kN sN w0 8001 0 Bb)) ∧ w = mw E ad g1 a1 v1 tl) 0 0) (ee : Int64) : ∀ (m tt : Nat) (B1 : Bs) (g1 : Nat → Int32) (a1 : Nat → Nat → Int32) (v1 : Nat → Int64), 8001 < tt + m → MI kN sN B1 g1 a1 v1 → tt ≤ B1.1 → skA kN sN w0 (8001 - tt) tt B1 = skA kN sN w0 8001 0 Bb → GG E X (mw E ad g1 a1 v1 tl) 0 0 152 [(0, .ref (ad 17)), (1, .int (nI kN)), (2, .int (nI sN)), (3, .int (nI w0)), (4, .int (nI (Mk kN))), (5, .long ee), (7, .int (nI tt))] [] := by
  have hk2 := hk
  obtain ⟨⟨hk1, hk3⟩, hks, hs5⟩ := hk2
  intro m
  induction m with
  | zero =>
    intro tt B1 g1 a1 v1 hm hI1 hle
    have h8 := hI1.2.1.1
    omega
  | succ m ih =>
    intro tt B1 g1 a1 v1 hm hI1 hle hl1
    obtain ⟨j14, jB, j3, j4, j5, j6⟩ := id hI1
    have jB8 := jB.1
    refine mg_iload C dX5_find_152 rfl ?_
    refine mg_aload_n C dX5_find_154 rfl ?_
    refine mg_get C inG_X5 fX5_149 (ci := 5) rfl rfl 17 rfl rfl dX5_find_155 ?_
    refine mg_icmp_ge C 216 dX5_find_158 (by decide) (fun h158 => ?_) (fun h158 => ?_)
    · have hge : B1.1 ≤ tt := (by rcases Nat.lt_or_ge tt B1.1 with h | h; exact absurd (by rw [j14] at h158; exact h158) (nI_ge h (by omega)); exact h)
      refine mg_iconst (v := (-1)) C dX5_find_216 (by decide) ?_
      exact mg_iret C hQ dX5_find_217 (⟨g1, a1, v1, by rw [← hl1, show 8001 - tt = (8001 - (tt + 1)) + 1 by omega, skA, if_neg (by omega)], rfl⟩)
    · have hlt : tt < B1.1 := (by rcases Nat.lt_or_ge tt B1.1 with h | h; exact h; exact absurd (by rw [j14]; exact nI_le h (by omega)) h158)
      have hin4 : vp_in (nI tt) 8000 := vp_in_nI (by omega) (by decide)
      have esk : skA kN sN w0 (8001 - tt) tt B1 = (match fwc kN sN (B1.2.1 tt) w0 sN with | some _ => nI (dpt B1.2.2.1 tt tt) | none => match lpA kN sN tt sN B1 with | (false, _) => -5 | (true, B2) => skA kN sN w0 (8001 - (tt + 1)) (tt + 1) B2) := (by rw [show 8001 - tt = (8001 - (tt + 1)) + 1 by omega, skA, if_pos hlt]; rfl)
      refine mg_aload_n C dX5_find_161 rfl ?_
      refine mg_get C inG_X5 fX5_59 (ci := 5) rfl rfl 17 rfl rfl dX5_find_162 ?_
      refine mg_iload C dX5_find_165 rfl ?_
      refine mg_lald C 4 rfl (hin4) dX5_find_167 ?_
      refine mg_tos (w := .long (lN (emn kN (B1.2.1 tt) sN))) (by rw [nI_clamp (by omega), j3 tt hlt]) ?_
      refine mg_iload_n C dX5_find_168 rfl ?_
      refine mg_iload_n C dX5_find_169 rfl ?_
      refine mg_callS C (ct_X5_whereIs E _ kN sN (B1.2.1 tt) w0 hk hw0) oX5_171 rfl rfl rfl dX5_find_170 (fun o170 w170 z170 => ?_)
      obtain ⟨rfl, rfl⟩ := z170
      refine mg_v ?_
      refine mg_istore C dX5_find_173 rfl ?_
      refine mg_lve (lv' := [(0, _), (1, _), (2, _), (3, _), (4, _), (5, _), (7, _), (8, _)]) rfl ?_
      refine mg_iload C dX5_find_175 rfl ?_
      refine mg_iconst (v := (-1)) C dX5_find_177 (by decide) ?_
      refine mg_icmp_eq C 194 dX5_find_178 (by decide) (fun h178 => ?_) (fun h178 => ?_)
      · refine mg_aload_n C dX5_find_194 rfl ?_
        refine mg_iload C dX5_find_195 rfl ?_
        refine mg_iload_n C dX5_find_197 rfl ?_
        refine mg_iload_n C dX5_find_198 rfl ?_
        refine mg_iload C dX5_find_199 rfl ?_
        refine mg_callV C (ct_X5_goesOn E _ _ _ _ _ kN sN B1 tt hk hI1 hlt) oX5_179 17 rfl rfl rfl rfl rfl dX5_find_201 (fun o201 w201 z201 => ?_)
        obtain ⟨g3, a3, v3, rfl, hI3, hg3, ha3, rfl⟩ := z201
        refine mg_v ?_
        refine mg_if_ne C 210 dX5_find_204 (by decide) (fun h204 => ?_) (fun h204 => ?_)
        · refine mg_iinc C dX5_find_210 rfl rfl ?_
          refine mg_lve (lv' := [(0, _), (1, _), (2, _), (3, _), (4, _), (5, _), (7, _), (8, _)]) rfl ?_
          refine mg_goto C 152 dX5_find_213 (by decide) ?_
          refine mg_lv (lv' := [(0, .ref (ad 17)), (1, .int (nI kN)), (2, .int (nI sN)), (3, .int (nI w0)), (4, .int (nI (Mk kN))), (5, .long ee), (7, .int (nI (tt + 1)))]) (lv_tk 7 (by rw [nI_succ tt]; rfl)) ?_
          refine ih (tt + 1) _ _ _ _ (by omega) hI3 (lpA_t (k := kN) (s := sN) sN B1 hlt) ?_
          rw [← hl1, esk, fwn0 hs5 h178]; dsimp only; rw [pair_t (bi1 h204)]
        · refine mg_bipush (v := (-5)) C dX5_find_207 (by decide) ?_
          exact mg_iret C hQ dX5_find_209 (⟨g3, a3, v3, by rw [← hl1, esk, fwn0 hs5 h178]; dsimp only; rw [pair_f (bi0 h204)], rfl⟩)
      · refine mg_aload_n C dX5_find_181 rfl ?_
        refine mg_iload C dX5_find_182 rfl ?_
        refine mg_iload C dX5_find_184 rfl ?_
        refine mg_callV C (ct_X5_becomesFound E _ _ _ _ _ kN sN B1 tt _ hI1 hlt) oX5_175 17 rfl rfl rfl rfl rfl dX5_find_186 (fun o186 w186 z186 => ?_)
        obtain ⟨g3, a3, rfl, hg15, hg16, hgo, hao3, rfl⟩ := z186
        refine mg_v0 ?_
        refine mg_aload_n C dX5_find_189 rfl ?_
        refine mg_get C inG_X5 fX5_160 (ci := 5) rfl rfl 17 rfl rfl dX5_find_190 ?_
        exact mg_iret C hQ dX5_find_193 (⟨g3, a3, v1, by obtain ⟨cc, ecc⟩ := fws0 h178; rw [hg15, ← hl1, esk, ecc], rfl⟩)
set_option maxHeartbeats 400000 in
set_option maxRecDepth 100000 in
theorem fm_in (E : En) (ad : Nat → Nat) (g : Nat → Int32) (a : Nat → Nat → Int32) (v : Nat → Int64) (tl : va_W) (kN sN w0 : Nat) (hk : KS kN sN) (hw0 : w0 < 256) (X : Fx) (C : Cx E X cX5_find 9 RX5 (some .int) 3 120 0 0) (hQ : Rt E X (fun o w => ∃ (g1 : Nat → Int32) (a1 : Nat → Nat → Int32) (v1 : Nat → Int64), o = some (.int (skA kN sN w0 8001 0 Bb)) ∧ w = mw E ad g1 a1 v1 tl) 0 0) (a1 : Nat → Nat → Int32) (q : Nat) (hq : q < 8) (out : GG E X (mw E ad (ug g 14 0) a1 v tl) 0 0 134 [(0, .ref (ad 17)), (1, .int (nI kN)), (2, .int (nI sN)), (3, .int (nI w0)), (4, .int (nI (Mk kN))), (5, .long (lN (inI q (inV kN q) kN))), (7, .int (nI q)), (8, .int (nI kN))] []) : ∀ (m i : Nat), kN < i + m → i ≤ kN → GG E X (mw E ad (ug g 14 0) a1 v tl) 0 0 92 [(0, .ref (ad 17)), (1, .int (nI kN)), (2, .int (nI sN)), (3, .int (nI w0)), (4, .int (nI (Mk kN))), (5, .long (lN (inI q (inV kN q) i))), (7, .int (nI q)), (8, .int (nI i))] [] := by
  have hk2 := hk
  obtain ⟨⟨hk1, hk3⟩, hks, hs5⟩ := hk2
  intro m
  induction m with
  | zero => intro i hm hi; omega
  | succ m ih =>
    intro i hm hi
    refine mg_iload C dX5_find_92 rfl ?_
    refine mg_iload_n C dX5_find_94 rfl ?_
    refine mg_icmp_ge C 134 dX5_find_95 (by decide) (fun h95 => ?_) (fun h95 => ?_)
    · have ei : i = kN := (by rcases Nat.lt_or_ge i kN with h | h; exact absurd h95 (nI_ge h (by omega)); omega)
      subst ei
      exact out
    · have hlt : i < kN := (by rcases Nat.lt_or_ge i kN with h | h; exact h; exact absurd (nI_le h (by omega)) h95)
      refine mg_lload C dX5_find_98 rfl ?_
      refine mg_iload C dX5_find_100 rfl ?_
      refine mg_iload C dX5_find_102 rfl ?_
      refine mg_ishr C dX5_find_104 ?_
      refine mg_iconst (v := 1) C dX5_find_105 (by decide) ?_
      refine mg_iand C dX5_find_106 ?_
      refine mg_tos (w := .int (nI ((q >>> i) &&& 1))) (by rw [ni_shr (by omega) (by omega), show (1 : Int32) = nI 1 from rfl, ni_and]) ?_
      refine mg_iconst (v := 1) C dX5_find_107 (by decide) ?_
      refine mg_icmp_ne C 124 dX5_find_108 (by decide) (fun h108 => ?_) (fun h108 => ?_)
      · have hone : ¬ (q >>> i) &&& 1 = 1 := fun e => h108 (by rw [e]; rfl)
        refine mg_lconst (v := 0) C dX5_find_124 (by decide) ?_
        refine mg_lor C dX5_find_125 ?_
        refine mg_tos (w := .long (lN (inI q (inV kN q) (i + 1)))) (by rw [show (0 : Int64) = lN 0 from rfl, ln_or, inI, if_neg hone]) ?_
        refine mg_lstore C dX5_find_126 rfl ?_
        refine mg_lve (lv' := [(0, _), (1, _), (2, _), (3, _), (4, _), (5, _), (7, _), (8, _)]) rfl ?_
        refine mg_iinc C dX5_find_128 rfl rfl ?_
        refine mg_lve (lv' := [(0, _), (1, _), (2, _), (3, _), (4, _), (5, _), (7, _), (8, _)]) rfl ?_
        refine mg_goto C 92 dX5_find_131 (by decide) ?_
        refine mg_lve (lv' := [(0, .ref (ad 17)), (1, .int (nI kN)), (2, .int (nI sN)), (3, .int (nI w0)), (4, .int (nI (Mk kN))), (5, .long (lN (inI q (inV kN q) (i + 1)))), (7, .int (nI q)), (8, .int (nI (i + 1)))]) (by rw [nI_succ i]; rfl) ?_
        exact ih (i + 1) (by omega) (by omega)
      · have hone : (q >>> i) &&& 1 = 1 := (by have h5 : (q >>> i) &&& 1 ≤ 1 := Nat.and_le_right; exact (nI_eq (by omega) (by omega)).mp h108)
        refine mg_lconst (v := 1) C dX5_find_111 (by decide) ?_
        refine mg_bipush (v := 8) C dX5_find_112 (by decide) ?_
        refine mg_iload C dX5_find_114 rfl ?_
        refine mg_imul C dX5_find_116 ?_
        refine mg_iload C dX5_find_117 rfl ?_
        refine mg_iadd C dX5_find_119 ?_
        refine mg_lshl C dX5_find_120 ?_
        refine mg_goto C 125 dX5_find_121 (by decide) ?_
        refine mg_lor C dX5_find_125 ?_
        refine mg_tos (w := .long (lN (inI q (inV kN q) (i + 1)))) (by rw [show (8 : Int32) = nI 8 from rfl, pk_mul, nI_add, show (1 : Int64) = lN 1 from rfl, ln_shl (by omega), ln_or, inI, if_pos hone]) ?_
        refine mg_lstore C dX5_find_126 rfl ?_
        refine mg_lve (lv' := [(0, _), (1, _), (2, _), (3, _), (4, _), (5, _), (7, _), (8, _)]) rfl ?_
        refine mg_iinc C dX5_find_128 rfl rfl ?_
        refine mg_lve (lv' := [(0, _), (1, _), (2, _), (3, _), (4, _), (5, _), (7, _), (8, _)]) rfl ?_
        refine mg_goto C 92 dX5_find_131 (by decide) ?_
        refine mg_lve (lv' := [(0, .ref (ad 17)), (1, .int (nI kN)), (2, .int (nI sN)), (3, .int (nI w0)), (4, .int (nI (Mk kN))), (5, .long (lN (inI q (inV kN q) (i + 1)))), (7, .int (nI q)), (8, .int (nI (i + 1)))]) (by rw [nI_succ i]; rfl) ?_
        exact ih (i + 1) (by omega) (by omega)
set_option maxHeartbeats 400000 in
set_option maxRecDepth 100000 in
theorem fm_first (E : En) (ad : Nat → Nat) (g : Nat → Int32) (a : Nat → Nat → Int32) (v : Nat → Int64) (tl : va_W) (kN sN w0 : Nat) (hk : KS kN sN) (hw0 : w0 < 256) (X : Fx) (C : Cx E X cX5_find 9 RX5 (some .int) 3 120 0 0) (hQ : Rt E X (fun o w => ∃ (g1 : Nat → Int32) (a1 : Nat → Nat → Int32) (v1 : Nat → Int64), o = some (.int (skA kN sN w0 8001 0 Bb)) ∧ w = mw E ad g1 a1 v1 tl) 0 0) (a1 : Nat → Nat → Int32) (hz : ∀ p, p < 16384 → a1 15 p = 0) : ∀ (m q : Nat), 2 ^ kN < q + m → q ≤ 2 ^ kN → GG E X (mw E ad (ug g 14 0) a1 v tl) 0 0 81 [(0, .ref (ad 17)), (1, .int (nI kN)), (2, .int (nI sN)), (3, .int (nI w0)), (4, .int (nI (Mk kN))), (5, .long (lN (inV kN q))), (7, .int (nI q))] [] := by
  have hk2 := hk
  obtain ⟨⟨hk1, hk3⟩, hks, hs5⟩ := hk2
  have hp := pow_le3 hk3
  have hpp : 1 ≤ 2 ^ kN := Nat.one_le_two_pow
  intro m
  induction m with
  | zero => intro q hm hq; omega
  | succ m ih =>
    intro q hm hq
    refine mg_iload C dX5_find_81 rfl ?_
    refine mg_iconst (v := 1) C dX5_find_83 (by decide) ?_
    refine mg_iload_n C dX5_find_84 rfl ?_
    refine mg_ishl C dX5_find_85 ?_
    refine mg_tos (w := .int (nI (2 ^ kN))) (congrArg Value.int (tb_eq hk3)) ?_
    refine mg_icmp_ge C 140 dX5_find_86 (by decide) (fun h86 => ?_) (fun h86 => ?_)
    · have eq2 : q = 2 ^ kN := (by rcases Nat.lt_or_ge q (2 ^ kN) with h | h; exact absurd h86 (nI_ge h (by omega)); omega)
      subst eq2
      have hI0 : MI kN sN Bz (ug g 14 0) a1 v := ⟨rfl, ⟨by decide, fun j hj => absurd hj (Nat.not_lt_zero j)⟩, fun j hj => absurd hj (Nat.not_lt_zero j), fun j hj => absurd hj (Nat.not_lt_zero j), fun j hj => absurd hj (Nat.not_lt_zero j), ht_0 hz⟩
      refine mg_aload_n C dX5_find_140 rfl ?_
      refine mg_lload C dX5_find_141 rfl ?_
      refine mg_tos (w := .long (lN (emn kN 0 sN))) (by rw [inV_em hk]) ?_
      refine mg_iconst (v := 0) C dX5_find_143 (by decide) ?_
      refine mg_iconst (v := 0) C dX5_find_144 (by decide) ?_
      refine mg_callV C (ct_X5_meets E _ _ _ _ _ kN sN Bz 0 0 0 hk hI0 (Nat.pow_pos (by omega)) ⟨by omega, Or.inl rfl⟩ (by omega)) oX5_167 17 rfl rfl rfl rfl rfl dX5_find_145 (fun o145 w145 z145 => ?_)
      obtain ⟨g2, a2, v2, rfl, hI2, hg2, ha2, rfl⟩ := z145
      refine mg_v ?_
      refine mg_pop C dX5_find_148 rfl ?_
      refine mg_iconst (v := 0) C dX5_find_149 (by decide) ?_
      refine mg_istore C dX5_find_150 rfl ?_
      refine mg_lve (lv' := [(0, _), (1, _), (2, _), (3, _), (4, _), (5, _), (7, _)]) rfl ?_
      exact fm_main E ad g a v tl kN sN w0 hk hw0 X C hQ _ 8002 0 Bb g2 a2 v2 (by omega) hI2 (Nat.zero_le _) rfl
    · have hlt : q < 2 ^ kN := (by rcases Nat.lt_or_ge q (2 ^ kN) with h | h; exact h; exact absurd (nI_le h (by omega)) h86)
      refine mg_iconst (v := 0) C dX5_find_89 (by decide) ?_
      refine mg_istore C dX5_find_90 rfl ?_
      refine mg_lve (lv' := [(0, _), (1, _), (2, _), (3, _), (4, _), (5, _), (7, _), (8, _)]) rfl ?_
      refine fm_in E ad g a v tl kN sN w0 hk hw0 X C hQ a1 q (by omega) ?_ (kN + 1) 0 (by omega) (by omega)
      refine mg_iinc C dX5_find_134 rfl rfl ?_
      refine mg_goto C 81 dX5_find_137 (by decide) ?_
      refine mg_lv (lv' := [(0, .ref (ad 17)), (1, .int (nI kN)), (2, .int (nI sN)), (3, .int (nI w0)), (4, .int (nI (Mk kN))), (5, .long (lN (inV kN (q + 1)))), (7, .int (nI (q + 1)))]) (lv_tk 7 (by rw [nI_succ q]; rfl)) ?_
      exact ih (q + 1) (by omega) (by omega)
set_option maxHeartbeats 400000 in
set_option maxRecDepth 100000 in
theorem fm_place (E : En) (ad : Nat → Nat) (g : Nat → Int32) (a : Nat → Nat → Int32) (v : Nat → Int64) (tl : va_W) (kN sN w0 : Nat) (hk : KS kN sN) (hw0 : w0 < 256) (X : Fx) (C : Cx E X cX5_find 9 RX5 (some .int) 3 120 0 0) (hQ : Rt E X (fun o w => ∃ (g1 : Nat → Int32) (a1 : Nat → Nat → Int32) (v1 : Nat → Int64), o = some (.int (skA kN sN w0 8001 0 Bb)) ∧ w = mw E ad g1 a1 v1 tl) 0 0) : ∀ (m i : Nat) (a1 : Nat → Nat → Int32), 16384 < i + m → i ≤ 16384 → (∀ p, p < i → a1 15 p = 0) → GG E X (mw E ad g a1 v tl) 0 0 48 [(0, .ref (ad 17)), (1, .int (nI kN)), (2, .int (nI sN)), (3, .int (nI w0)), (4, .int (nI (Mk kN))), (5, .int (nI i))] [] := by
  intro m
  induction m with
  | zero => intro i a1 hm hi; omega
  | succ m ih =>
    intro i a1 hm hi hz
    refine mg_iload C dX5_find_48 rfl ?_
    refine mg_sipush (v := 16384) C dX5_find_50 (by decide) ?_
    refine mg_icmp_ge C 70 dX5_find_53 (by decide) (fun h53 => ?_) (fun h53 => ?_)
    · have ei : i = 16384 := (by rcases Nat.lt_or_ge i 16384 with h | h; exact absurd h53 (nI_ge (b := 16384) h (by decide)); omega)
      subst ei
      refine mg_aload_n C dX5_find_70 rfl ?_
      refine mg_iconst (v := 0) C dX5_find_71 (by decide) ?_
      refine mg_put C inG_X5 fX5_149 (ci := 5) rfl rfl tyX5 tyX5_ok nmX5 rfl 17 rfl rfl rfl rfl dX5_find_72 (ws' := (mw E ad (ug g 14 0) a1 v tl)) rfl ?_
      refine mg_lconst (v := 0) C dX5_find_75 (by decide) ?_
      refine mg_lstore C dX5_find_76 rfl ?_
      refine mg_lve (lv' := [(0, _), (1, _), (2, _), (3, _), (4, _), (5, _)]) rfl ?_
      refine mg_iconst (v := 0) C dX5_find_78 (by decide) ?_
      refine mg_istore C dX5_find_79 rfl ?_
      refine mg_lve (lv' := [(0, _), (1, _), (2, _), (3, _), (4, _), (5, _), (7, _)]) rfl ?_
      exact fm_first E ad g a v tl kN sN w0 hk hw0 X C hQ a1 hz (2 ^ kN + 1) 0 (by have hpp : 1 ≤ 2 ^ kN := Nat.one_le_two_pow; omega) (Nat.zero_le _)
    · have hlt : i < 16384 := (by rcases Nat.lt_or_ge i 16384 with h | h; exact h; exact absurd (show (16384 : Int32) ≤ nI i from nI_le (a := 16384) h (by omega)) h53)
      have hin5 : vp_in (nI i) 16384 := vp_in_nI hlt (by decide)
      refine mg_aload_n C dX5_find_56 rfl ?_
      refine mg_get C inG_X5 fX5_69 (ci := 5) rfl rfl 17 rfl rfl dX5_find_57 ?_
      refine mg_iload C dX5_find_60 rfl ?_
      refine mg_iconst (v := 0) C dX5_find_62 (by decide) ?_
      refine mg_iast C 1 rfl (hin5) dX5_find_63 (ws' := (mw E ad g (ups a1 15 ((nI i) : Int32).toNatClampNeg 0) v tl)) rfl ?_
      refine mg_iinc C dX5_find_64 rfl rfl ?_
      refine mg_lve (lv' := [(0, _), (1, _), (2, _), (3, _), (4, _), (5, _)]) rfl ?_
      refine mg_goto C 48 dX5_find_67 (by decide) ?_
      refine mg_lve (lv' := [(0, .ref (ad 17)), (1, .int (nI kN)), (2, .int (nI sN)), (3, .int (nI w0)), (4, .int (nI (Mk kN))), (5, .int (nI (i + 1)))]) (by rw [nI_succ i]; rfl) ?_
      refine ih (i + 1) _ (by omega) (by omega) (fun p hp => ?_)
      show upd (a1 15) _ _ p = 0
      rw [nI_clamp (by omega)]
      by_cases e : p = i
      · rw [e]; exact pk_us
      · rw [pk_un e]; exact hz p (by omega)
set_option maxHeartbeats 400000 in
set_option maxRecDepth 100000 in
theorem ct_X5_findG (E : En) (ad : Nat → Nat) (g : Nat → Int32) (a : Nat → Nat → Int32) (v : Nat → Int64) (tl : va_W) (kN sN w0 : Nat) (hk : KS kN sN) (hw0 : w0 < 256) (h1 : ¬ wi (nI kN) 1 3 = 0) (h2 : ¬ wi (nI sN) (nI kN) 5 = 0) (h3 : ¬ wi (nI w0) 0 ((1 : Int32) <<< ((1 : Int32) <<< (nI kN &&& 31) &&& 31) - 1) = 0) : Ct E mX5_find 3 0 0 [.ref (ad 17), .int (nI kN), .int (nI sN), .int (nI w0)] (mw E ad g a v tl) (fun o w => ∃ (g1 : Nat → Int32) (a1 : Nat → Nat → Int32) (v1 : Nat → Int64), o = some (.int (skA kN sN w0 8001 0 Bb)) ∧ w = mw E ad g1 a1 v1 tl) := by
  refine Ct.of (by decide) (Nat.le_of_ble_eq_true rfl) (fun X C hQ hin => ?_)
  have C : Cx E X cX5_find 9 RX5 (some .int) 3 120 0 0 := C
  refine mg_iload_n C dX5_find_0 rfl ?_
  refine mg_iconst (v := 1) C dX5_find_1 (by decide) ?_
  refine mg_iconst (v := 3) C dX5_find_2 (by decide) ?_
  refine mg_callS C (ct_X5_in E _ _ _ _) oX5_98 rfl rfl rfl dX5_find_3 (fun o3 w3 z3 => ?_)
  obtain ⟨rfl, rfl⟩ := z3
  refine mg_v ?_
  refine mg_if_eq C 33 dX5_find_6 (by decide) (fun h6 => absurd h6 (h1)) (fun h6 => ?_)
  refine mg_iload_n C dX5_find_9 rfl ?_
  refine mg_iload_n C dX5_find_10 rfl ?_
  refine mg_iconst (v := 5) C dX5_find_11 (by decide) ?_
  refine mg_callS C (ct_X5_in E _ _ _ _) oX5_98 rfl rfl rfl dX5_find_12 (fun o12 w12 z12 => ?_)
  obtain ⟨rfl, rfl⟩ := z12
  refine mg_v ?_
  refine mg_if_eq C 33 dX5_find_15 (by decide) (fun h15 => absurd h15 (h2)) (fun h15 => ?_)
  refine mg_iload_n C dX5_find_18 rfl ?_
  refine mg_iconst (v := 0) C dX5_find_19 (by decide) ?_
  refine mg_iconst (v := 1) C dX5_find_20 (by decide) ?_
  refine mg_iconst (v := 1) C dX5_find_21 (by decide) ?_
  refine mg_iload_n C dX5_find_22 rfl ?_
  refine mg_ishl C dX5_find_23 ?_
  refine mg_ishl C dX5_find_24 ?_
  refine mg_iconst (v := 1) C dX5_find_25 (by decide) ?_
  refine mg_isub C dX5_find_26 ?_
  refine mg_callS C (ct_X5_in E _ _ _ _) oX5_98 rfl rfl rfl dX5_find_27 (fun o27 w27 z27 => ?_)
  obtain ⟨rfl, rfl⟩ := z27
  refine mg_v ?_
  refine mg_if_ne C 36 dX5_find_30 (by decide) (fun h30 => ?_) (fun h30 => absurd h30 (h3))
  refine mg_iconst (v := 1) C dX5_find_36 (by decide) ?_
  refine mg_iconst (v := 1) C dX5_find_37 (by decide) ?_
  refine mg_iload_n C dX5_find_38 rfl ?_
  refine mg_ishl C dX5_find_39 ?_
  refine mg_ishl C dX5_find_40 ?_
  refine mg_iconst (v := 1) C dX5_find_41 (by decide) ?_
  refine mg_isub C dX5_find_42 ?_
  refine mg_tos (w := .int (nI (Mk kN))) (congrArg Value.int (fm_eq hk.1.2)) ?_
  refine mg_istore C dX5_find_43 rfl ?_
  refine mg_lve (lv' := [(0, _), (1, _), (2, _), (3, _), (4, _)]) rfl ?_
  refine mg_iconst (v := 0) C dX5_find_45 (by decide) ?_
  refine mg_istore C dX5_find_46 rfl ?_
  refine mg_lve (lv' := [(0, _), (1, _), (2, _), (3, _), (4, _), (5, _)]) rfl ?_
  exact fm_place E ad g a v tl kN sN w0 hk hw0 X C hQ 16385 0 a (by omega) (by omega) (fun p hp => absurd hp (Nat.not_lt_zero p))
def fbad (k s t : Int32) : Prop := wi k 1 3 = 0 ∨ wi s k 5 = 0 ∨ wi t 0 ((1 : Int32) <<< ((1 : Int32) <<< (k &&& 31) &&& 31) - 1) = 0
theorem anFind_bad {k s t : Int32} (h1 : ¬ wi k 1 3 = 0) (h2 : ¬ wi s k 5 = 0) (h3 : ¬ wi t 0 ((1 : Int32) <<< ((1 : Int32) <<< (k &&& 31) &&& 31) - 1) = 0) : ¬ fbad k s t := fun h => h.elim h1 (fun h => h.elim h2 h3)
set_option maxHeartbeats 400000 in
set_option maxRecDepth 100000 in
theorem ct_X5_findB (E : En) (ad : Nat → Nat) (tl : va_W) (k s t : Int32) (hbad : fbad k s t) : Ct E mX5_find 3 0 0 [.ref (ad 17), .int k, .int s, .int t] (mw E ad gF aF vF tl) (fun o w => o = some (.int (anFind k s t)) ∧ True) := by
  refine Ct.of (by decide) (Nat.le_of_ble_eq_true rfl) (fun X C hQ hin => ?_)
  have C : Cx E X cX5_find 9 RX5 (some .int) 3 120 0 0 := C
  refine mg_iload_n C dX5_find_0 rfl ?_
  refine mg_iconst (v := 1) C dX5_find_1 (by decide) ?_
  refine mg_iconst (v := 3) C dX5_find_2 (by decide) ?_
  refine mg_callS C (ct_X5_in E _ _ _ _) oX5_98 rfl rfl rfl dX5_find_3 (fun o3 w3 z3 => ?_)
  obtain ⟨rfl, rfl⟩ := z3
  refine mg_v ?_
  refine mg_if_eq C 33 dX5_find_6 (by decide) (fun h6 => ?_) (fun h6 => ?_)
  · refine mg_bipush (v := (-2)) C dX5_find_33 (by decide) ?_
    exact mg_iret C hQ dX5_find_35 (⟨by rw [anFind, if_pos h6] <;> first | rfl | decide, trivial⟩)
  · refine mg_iload_n C dX5_find_9 rfl ?_
    refine mg_iload_n C dX5_find_10 rfl ?_
    refine mg_iconst (v := 5) C dX5_find_11 (by decide) ?_
    refine mg_callS C (ct_X5_in E _ _ _ _) oX5_98 rfl rfl rfl dX5_find_12 (fun o12 w12 z12 => ?_)
    obtain ⟨rfl, rfl⟩ := z12
    refine mg_v ?_
    refine mg_if_eq C 33 dX5_find_15 (by decide) (fun h15 => ?_) (fun h15 => ?_)
    · refine mg_bipush (v := (-2)) C dX5_find_33 (by decide) ?_
      exact mg_iret C hQ dX5_find_35 (⟨by rw [anFind, if_neg h6, if_pos h15] <;> first | rfl | decide, trivial⟩)
    · refine mg_iload_n C dX5_find_18 rfl ?_
      refine mg_iconst (v := 0) C dX5_find_19 (by decide) ?_
      refine mg_iconst (v := 1) C dX5_find_20 (by decide) ?_
      refine mg_iconst (v := 1) C dX5_find_21 (by decide) ?_
      refine mg_iload_n C dX5_find_22 rfl ?_
      refine mg_ishl C dX5_find_23 ?_
      refine mg_ishl C dX5_find_24 ?_
      refine mg_iconst (v := 1) C dX5_find_25 (by decide) ?_
      refine mg_isub C dX5_find_26 ?_
      refine mg_callS C (ct_X5_in E _ _ _ _) oX5_98 rfl rfl rfl dX5_find_27 (fun o27 w27 z27 => ?_)
      obtain ⟨rfl, rfl⟩ := z27
      refine mg_v ?_
      refine mg_if_ne C 36 dX5_find_30 (by decide) (fun h30 => ?_) (fun h30 => ?_)
      · exact absurd hbad (anFind_bad h6 h15 h30)
      · refine mg_bipush (v := (-2)) C dX5_find_33 (by decide) ?_
        exact mg_iret C hQ dX5_find_35 (⟨by rw [anFind, if_neg h6, if_neg h15, if_pos h30] <;> first | rfl | decide, trivial⟩)
theorem ct_X5_find (E : En) (ad : Nat → Nat) (tl : va_W) (k s t : Int32) : Ct E mX5_find 3 0 0 [.ref (ad 17), .int k, .int s, .int t] (mw E ad gF aF vF tl) (fun o w => o = some (.int (anFind k s t)) ∧ True) := by
  by_cases h1 : wi k 1 3 = 0
  · exact ct_X5_findB E ad tl k s t (Or.inl h1)
  by_cases h2 : wi s k 5 = 0
  · exact ct_X5_findB E ad tl k s t (Or.inr (Or.inl h2))
  by_cases h3 : wi t 0 ((1 : Int32) <<< ((1 : Int32) <<< (k &&& 31) &&& 31) - 1) = 0
  · exact ct_X5_findB E ad tl k s t (Or.inr (Or.inr h3))
  have ean : anFind k s t = skA k.toNatClampNeg s.toNatClampNeg t.toNatClampNeg 8001 0 Bb := (by rw [anFind, if_neg h1, if_neg h2, if_neg h3])
  obtain ⟨kN, sN, w0, rfl, rfl, rfl, hks, hw0⟩ := find_nat h1 h2 h3
  rw [nI_clamp (by have q := hks.1.2; omega), nI_clamp (by have q := hks.2.2; omega), nI_clamp (by omega)] at ean
  exact (ct_X5_findG E ad gF aF vF tl kN sN w0 hks hw0 h1 h2 h3).mono (fun o w hz => by
    obtain ⟨g1, a1, v1, e1, -⟩ := hz
    exact ⟨by rw [e1, ean], trivial⟩)
