/-- what a search leaves in the class -/
def SkP (g : Nat → Int32) (a : Nat → Nat → Int32) (ad : Nat → Nat) (fl : Nat) (Rz : Bs × Option (Nat × Nat)) (g1 : Nat → Int32) (a1 : Nat → Nat → Int32) (ad1 : Nat → Nat) (fl1 : Nat) : Prop :=
  g1 14 = nI Rz.1.1 ∧ (∀ i, i ≠ 0 → ad1 i = ad i) ∧ fl1 ≤ 8000 ∧ (∀ i, i ≠ 10 → i ≠ 11 → i ≠ 12 → i ≠ 13 → i ≠ 14 → i ≠ 15 → i ≠ 16 → g1 i = g i) ∧ (∀ j, j ≠ 11 → j ≠ 12 → j ≠ 13 → a1 j = a j) ∧
  match Rz.2 with
  | none => g1 15 = g 15 ∧ g1 16 = g 16 ∧ a1 13 = a 13 ∧ fl1 = fl
  | some q => g1 15 = nI (dpt Rz.1.2.2.1 q.1 q.1) ∧ g1 16 = nI q.2 ∧ dpt Rz.1.2.2.1 q.1 q.1 ≤ fl1 ∧ ∀ j, j < dpt Rz.1.2.2.1 q.1 q.1 → a1 13 j = nI (chA Rz.1.2.2.1 Rz.1.2.2.2 q.1 q.1 j)
set_option maxHeartbeats 400000 in
set_option maxRecDepth 100000 in
theorem cx_X2_seek (E : En) (ad : Nat → Nat) (fl : Nat) (g : Nat → Int32) (a : Nat → Nat → Int32) (v : Nat → Int64) (tl : va_W) (kN sN w0 : Nat) (hk : KS kN sN) (hw0 : w0 < 256) (hfl : fl ≤ 8000) : Ct E mX2_seek 4 1 8000 [.ref (ad 4), .int (nI kN), .int (nI sN), .int (nI w0)] (cw E ad fl g a v tl) (fun o w => ∃ (ad1 : Nat → Nat) (fl1 : Nat) (g1 : Nat → Int32) (a1 : Nat → Nat → Int32) (v1 : Nat → Int64), o = some (.int (skA kN sN w0 8001 0 Bb)) ∧ SkP g a ad fl (skF kN sN w0 8001 0 Bb) g1 a1 ad1 fl1 ∧ w = cw E ad1 fl1 g1 a1 v1 tl) := by
  refine Ct.of (by decide) (Nat.le_of_ble_eq_true rfl) (fun X C hQ hin => ?_)
  have C : Cx E X cX2_seek 6 RX2 (some .int) 4 160 1 8000 := C
  have hk2 := hk
  obtain ⟨⟨hk1, hk3⟩, hks, hs5⟩ := hk2
  have hcap := cap_le hk
  have loop : ∀ (m tt : Nat) (B1 : Bs) (g1 : Nat → Int32) (a1 : Nat → Nat → Int32) (v1 : Nat → Int64), 8001 < tt + m → CI kN sN B1 g1 a1 v1 → tt ≤ B1.1 → skA kN sN w0 (8001 - tt) tt B1 = skA kN sN w0 8001 0 Bb → skF kN sN w0 (8001 - tt) tt B1 = skF kN sN w0 8001 0 Bb → ((∀ i, i ≠ 10 → i ≠ 11 → i ≠ 12 → i ≠ 13 → i ≠ 14 → g1 i = g i) ∧ (∀ j, j ≠ 11 → j ≠ 12 → a1 j = a j)) → GG E X (cw E ad fl g1 a1 v1 tl) 0 0 9 [(0, .ref (ad 4)), (1, .int (nI kN)), (2, .int (nI sN)), (3, .int (nI w0)), (4, .int (nI tt))] [] := by
    intro m
    induction m with
    | zero =>
      intro tt B1 g1 a1 v1 hm hI1 hle
      have h8 := hI1.2.1.1
      omega
    | succ m ih =>
      intro tt B1 g1 a1 v1 hm hI1 hle hl1 hl2 hfr
      obtain ⟨⟨j10, j11, j12, j13, j14⟩, jB, j3, j4, j5⟩ := id hI1
      have jB8 := jB.1
      refine mg_iload C dX2_seek_9 rfl ?_
      refine mg_sipush (v := 8000) C dX2_seek_11 (by decide) ?_
      refine mg_icmp_ge C 84 dX2_seek_14 (by decide) (fun h14 => ?_) (fun h14 => ?_)
      · have hge : B1.1 ≤ tt := (by rcases Nat.lt_or_ge tt 8000 with h | h; exact absurd h14 (nI_ge (b := 8000) h (by decide)); omega)
        refine mg_iconst (v := (-1)) C dX2_seek_84 (by decide) ?_
        refine mg_widen (k' := 1) (n' := 8000) rfl rfl ?_
        have er : skF kN sN w0 8001 0 Bb = (B1, none) := (by rw [← hl2, show 8001 - tt = (8001 - (tt + 1)) + 1 by omega, skF, if_neg (by omega)])
        exact mg_iret C hQ dX2_seek_85 ⟨ad, fl, g1, a1, v1, by rw [← hl1, show 8001 - tt = (8001 - (tt + 1)) + 1 by omega, skA, if_neg (by omega)], by rw [er]; exact ⟨j14, fun _ _ => rfl, hfl, fun i q0 q1 q2 q3 q4 q5 q6 => hfr.1 i q0 q1 q2 q3 q4, fun j q1 q2 q3 => hfr.2 j q1 q2, hfr.1 15 (by decide) (by decide) (by decide) (by decide) (by decide), hfr.1 16 (by decide) (by decide) (by decide) (by decide) (by decide), hfr.2 13 (by decide) (by decide), rfl⟩, rfl⟩
      · refine mg_iload C dX2_seek_17 rfl ?_
        refine mg_aload_n C dX2_seek_19 rfl ?_
        refine mg_get C inG_X2 fX2_33 (ci := 2) rfl rfl 4 rfl rfl dX2_seek_20 ?_
        refine mg_icmp_ge C 84 dX2_seek_23 (by decide) (fun h23 => ?_) (fun h23 => ?_)
        · have hge : B1.1 ≤ tt := (by rcases Nat.lt_or_ge tt B1.1 with h | h; exact absurd (by rw [j14] at h23; exact h23) (nI_ge h (by omega)); exact h)
          refine mg_iconst (v := (-1)) C dX2_seek_84 (by decide) ?_
          refine mg_widen (k' := 1) (n' := 8000) rfl rfl ?_
          have er : skF kN sN w0 8001 0 Bb = (B1, none) := (by rw [← hl2, show 8001 - tt = (8001 - (tt + 1)) + 1 by omega, skF, if_neg (by omega)])
          exact mg_iret C hQ dX2_seek_85 ⟨ad, fl, g1, a1, v1, by rw [← hl1, show 8001 - tt = (8001 - (tt + 1)) + 1 by omega, skA, if_neg (by omega)], by rw [er]; exact ⟨j14, fun _ _ => rfl, hfl, fun i q0 q1 q2 q3 q4 q5 q6 => hfr.1 i q0 q1 q2 q3 q4, fun j q1 q2 q3 => hfr.2 j q1 q2, hfr.1 15 (by decide) (by decide) (by decide) (by decide) (by decide), hfr.1 16 (by decide) (by decide) (by decide) (by decide) (by decide), hfr.2 13 (by decide) (by decide), rfl⟩, rfl⟩
        · have hlt : tt < B1.1 := (by rcases Nat.lt_or_ge tt B1.1 with h | h; exact h; exact absurd (by rw [j14]; exact nI_le h (by omega)) h23)
          have hin4 : vp_in (nI tt) 8000 := vp_in_nI (by omega) (by decide)
          have esk : skA kN sN w0 (8001 - tt) tt B1 = (match fwc kN sN (B1.2.1 tt) w0 sN with | some _ => nI (dpt B1.2.2.1 tt tt) | none => match lpA kN sN tt sN B1 with | (false, _) => -5 | (true, B2) => skA kN sN w0 (8001 - (tt + 1)) (tt + 1) B2) := (by rw [show 8001 - tt = (8001 - (tt + 1)) + 1 by omega, skA, if_pos hlt]; rfl)
          have esf : skF kN sN w0 (8001 - tt) tt B1 = (match fwc kN sN (B1.2.1 tt) w0 sN with | some c => (B1, some (tt, c)) | none => match lpA kN sN tt sN B1 with | (false, B2) => (B2, none) | (true, B2) => skF kN sN w0 (8001 - (tt + 1)) (tt + 1) B2) := (by rw [show 8001 - tt = (8001 - (tt + 1)) + 1 by omega, skF, if_pos hlt]; rfl)
          refine mg_aload_n C dX2_seek_26 rfl ?_
          refine mg_aload_n C dX2_seek_27 rfl ?_
          refine mg_get C inG_X2 fX2_9 (ci := 2) rfl rfl 4 rfl rfl dX2_seek_28 ?_
          refine mg_iload C dX2_seek_31 rfl ?_
          refine mg_lald C 3 rfl (hin4) dX2_seek_33 ?_
          refine mg_callSN C (ct_X4_stateOf E _ _) oX2_36 rfl rfl rfl dX2_seek_34 (fun o34 w34 z34 => ?_)
          obtain ⟨rfl, rfl⟩ := z34
          refine mg_v ?_
          refine mg_tos (w := .int (nI (B1.2.1 tt))) (by rw [nI_clamp (by omega), j3 tt hlt]; exact congrArg Value.int (pv_state (by have q := (jB.2 tt hlt).1; omega) (jB.2 tt hlt).2.1 (jB.2 tt hlt).2.2.2)) ?_
          refine mg_callV C (ct_X2_openState E _ _ _ _ _ _ kN sN _ hk (by have q := (jB.2 tt hlt).1; omega) j10 j11 j12 j13 j5) oX2_40 4 rfl rfl rfl rfl rfl dX2_seek_37 (fun o37 w37 z37 => ?_)
          obtain ⟨a2, rfl, hta, hao, rfl⟩ := z37
          refine mg_v0 ?_
          have hI2 : CI kN sN B1 g1 a2 v1 := ⟨⟨j10, j11, j12, j13, j14⟩, jB, j3, fun y hy => by rw [hao 11 (by decide)]; exact j4 y hy, fun i hi => by rw [hta i (by omega), tabs, if_pos hi]⟩
          refine mg_aload_n C dX2_seek_40 rfl ?_
          refine mg_iload_n C dX2_seek_41 rfl ?_
          refine mg_callV C (ct_X2_cellWith E _ _ _ _ _ _ kN sN (B1.2.1 tt) w0 hk hw0 j11 hta) oX2_44 4 rfl rfl rfl rfl rfl dX2_seek_42 (fun o42 w42 z42 => ?_)
          obtain ⟨rfl, rfl⟩ := z42
          refine mg_v ?_
          refine mg_istore C dX2_seek_45 rfl ?_
          refine mg_lve (lv' := [(0, _), (1, _), (2, _), (3, _), (4, _), (5, _)]) rfl ?_
          refine mg_iload C dX2_seek_47 rfl ?_
          refine mg_iconst (v := (-1)) C dX2_seek_49 (by decide) ?_
          refine mg_icmp_eq C 66 dX2_seek_50 (by decide) (fun h50 => ?_) (fun h50 => ?_)
          · refine mg_aload_n C dX2_seek_66 rfl ?_
            refine mg_iload C dX2_seek_67 rfl ?_
            refine mg_callV C (ct_X2_meetAllFrom E _ _ _ _ _ _ kN sN B1 tt hk hI2 hlt hta) oX2_54 4 rfl rfl rfl rfl rfl dX2_seek_69 (fun o69 w69 z69 => ?_)
            obtain ⟨g3, a3, v3, rfl, hI3, hg3, ha3, rfl⟩ := z69
            refine mg_v ?_
            refine mg_if_ne C 78 dX2_seek_72 (by decide) (fun h72 => ?_) (fun h72 => ?_)
            · refine mg_iinc C dX2_seek_78 rfl rfl ?_
              refine mg_lve (lv' := [(0, _), (1, _), (2, _), (3, _), (4, _), (5, _)]) rfl ?_
              refine mg_goto C 9 dX2_seek_81 (by decide) ?_
              refine mg_lv (lv' := [(0, .ref (ad 4)), (1, .int (nI kN)), (2, .int (nI sN)), (3, .int (nI w0)), (4, .int (nI (tt + 1)))]) (lv_tk 5 (by rw [nI_succ tt]; rfl)) ?_
              refine ih (tt + 1) _ _ _ _ (by omega) hI3 (lpA_t (k := kN) (s := sN) sN B1 hlt) ?_ ?_ ⟨fun i q0 q1 q2 q3 q4 => (hg3 i q4).trans (hfr.1 i q0 q1 q2 q3 q4), fun j q1 q2 => (ha3 j q1).trans ((hao j q2).trans (hfr.2 j q1 q2))⟩
              · rw [← hl1, esk, fwn0 hs5 h50]; dsimp only; rw [pair_t (bi1 h72)]
              · rw [← hl2, esf, fwn0 hs5 h50]; dsimp only; rw [pair_t (bi1 h72)]
            · refine mg_bipush (v := (-5)) C dX2_seek_75 (by decide) ?_
              refine mg_widen (k' := 1) (n' := 8000) rfl rfl ?_
              have er : skF kN sN w0 8001 0 Bb = ((lpA kN sN tt sN B1).2, none) := (by rw [← hl2, esf, fwn0 hs5 h50]; dsimp only; rw [pair_f (bi0 h72)])
              exact mg_iret C hQ dX2_seek_77 ⟨ad, fl, g3, a3, v3, by rw [← hl1, esk, fwn0 hs5 h50]; dsimp only; rw [pair_f (bi0 h72)], by rw [er]; exact ⟨hI3.1.2.2.2.2, fun _ _ => rfl, hfl, fun i q0 q1 q2 q3 q4 q5 q6 => (hg3 i q4).trans (hfr.1 i q0 q1 q2 q3 q4), fun j q1 q2 q3 => (ha3 j q1).trans ((hao j q2).trans (hfr.2 j q1 q2)), (hg3 15 (by decide)).trans (hfr.1 15 (by decide) (by decide) (by decide) (by decide) (by decide)), (hg3 16 (by decide)).trans (hfr.1 16 (by decide) (by decide) (by decide) (by decide) (by decide)), (ha3 13 (by decide)).trans ((hao 13 (by decide)).trans (hfr.2 13 (by decide) (by decide))), rfl⟩, rfl⟩
          · refine mg_aload_n C dX2_seek_53 rfl ?_
            refine mg_iload C dX2_seek_54 rfl ?_
            refine mg_iload C dX2_seek_56 rfl ?_
            refine mg_callV C (cx_X2_keep E _ _ _ _ _ _ kN sN B1 tt _ hk hI2 hlt hfl) oX2_48 4 rfl rfl rfl rfl rfl dX2_seek_58 (fun o58 w58 z58 => ?_)
            obtain ⟨ad3, fl3, g3, a3, rfl, hg15, hg16, hgo, hao3, hch, hado, hD3, hfl3, rfl⟩ := z58
            refine mg_v0 ?_
            rw [← hado 4 (by decide)]
            refine mg_aload_n C dX2_seek_61 rfl ?_
            refine mg_get C inG_X2 fX2_51 (ci := 2) rfl rfl 4 rfl rfl dX2_seek_62 ?_
            obtain ⟨cc, ecc⟩ := fws0 h50
            have er : skF kN sN w0 8001 0 Bb = (B1, some (tt, cc)) := (by rw [← hl2, esf, ecc])
            exact mg_iret C hQ dX2_seek_65 ⟨ad3, fl3, g3, a3, v1, by rw [hg15, ← hl1, esk, ecc], by rw [er]; exact ⟨by rw [hgo 14 (by decide) (by decide)]; exact j14, hado, hfl3, fun i q0 q1 q2 q3 q4 q5 q6 => (hgo i q5 q6).trans (hfr.1 i q0 q1 q2 q3 q4), fun j q1 q2 q3 => (hao3 j q3).trans ((hao j q2).trans (hfr.2 j q1 q2)), hg15, by rw [hg16, ecc]; rfl, hD3, hch⟩, rfl⟩
  refine mg_aload_n C dX2_seek_0 rfl ?_
  refine mg_iload_n C dX2_seek_1 rfl ?_
  refine mg_iload_n C dX2_seek_2 rfl ?_
  refine mg_callV C (ct_X2_begin E _ _ _ _ _ _ kN sN hk) oX2_29 4 rfl rfl rfl rfl rfl dX2_seek_3 (fun o3 w3 z3 => ?_)
  obtain ⟨g1, a1, v1, rfl, hI1, hg1, ha1, rfl⟩ := z3
  refine mg_v0 ?_
  refine mg_iconst (v := 0) C dX2_seek_6 (by decide) ?_
  refine mg_istore C dX2_seek_7 rfl ?_
  refine mg_lve (lv' := [(0, _), (1, _), (2, _), (3, _), (4, _)]) rfl ?_
  exact loop 8002 0 Bb g1 a1 v1 (by omega) hI1 (Nat.zero_le _) rfl rfl ⟨hg1, ha1⟩
