/-! answers and states respect Sh -/
theorem Sh.g {g g1 : Nat → Int32} {a a1 : Nat → Nat → Int32} (h : Sh g a g1 a1) {i : Nat} (hi : i ∈ shl) : g1 i = g i := h.1 i hi
theorem sh_hc {g g1 : Nat → Int32} {a a1 : Nat → Nat → Int32} (h : Sh g a g1 a1) (r c : Int32) : hc g1 r c = hc g r c := by
  unfold hc; rw [h.g (by decide : 0 ∈ shl), h.g (by decide : 1 ∈ shl)]
theorem sh_sa {a a1 : Nat → Nat → Int32} {z y : Int32} (h : a1 1 z.toNatClampNeg = a 1 z.toNatClampNeg) : sa a1 z y = sa a z y := by
  unfold sa sk; rw [h]
theorem eq_write {fl : Nat} {g g1 : Nat → Int32} {a a1 : Nat → Nat → Int32} (hV : IV fl g a) (h : Sh g a g1 a1) (r c y : Int32) : gWrite g1 a1 r c y = gWrite g a r c y := by
  unfold gWrite
  rw [sh_hc h, h.g (by decide : 2 ∈ shl)]
  by_cases h1 : hc g r c = 0
  · rw [if_pos h1, if_pos h1]
  · rw [if_neg h1, if_neg h1]
    obtain ⟨R, C, T, n, m, D, F, ⟨⟨d0, d0a, d0b⟩, ⟨d1, d1a, d1b⟩, -⟩, -⟩ := hV
    obtain ⟨i, j, rfl, hi, rfl, hj⟩ := hc_nat d0 ⟨d0a, d0b⟩ d1 ⟨d1a, d1b⟩ h1
    rw [sh_sa (a := a) (a1 := a1) (by rw [pl_eq, nI_clamp (by omega)]; exact h.2.1 _ (by omega))]
theorem eq_stick {g g1 : Nat → Int32} {a a1 : Nat → Nat → Int32} (h : Sh g a g1 a1) (r c y : Int32) : gStick g1 r c y = gStick g r c y := by
  unfold gStick
  rw [sh_hc h, h.g (by decide : 2 ∈ shl)]
theorem sh_ups1 {g g1 : Nat → Int32} {a a1 : Nat → Nat → Int32} (h : Sh g a g1 a1) (k : Nat) (y : Int32) : Sh g (ups a 1 k y) g1 (ups a1 1 k y) := by
  refine ⟨h.1, fun j hj => ?_, h.2.2.1, h.2.2.2.1, h.2.2.2.2⟩
  show upd (a1 1) k y j = upd (a 1) k y j
  by_cases e : j = k
  · rw [e, pk_us, pk_us]
  · rw [pk_un e, pk_un e]; exact h.2.1 j hj
theorem sh_ups3 {g g1 : Nat → Int32} {a a1 : Nat → Nat → Int32} (h : Sh g a g1 a1) (k : Nat) (y : Int32) : Sh g (ups a 3 k y) g1 (ups a1 3 k y) := by
  refine ⟨h.1, h.2.1, fun j hj => ?_, h.2.2.2.1, h.2.2.2.2⟩
  show upd (a1 3) k y j = upd (a 3) k y j
  by_cases e : j = k
  · rw [e, pk_us, pk_us]
  · rw [pk_un e, pk_un e]; exact h.2.2.1 j hj
theorem sh_ups4 {g g1 : Nat → Int32} {a a1 : Nat → Nat → Int32} (h : Sh g a g1 a1) (k : Nat) (y : Int32) : Sh g (ups a 4 k y) g1 (ups a1 4 k y) := by
  refine ⟨h.1, h.2.1, h.2.2.1, fun j hj => ?_, h.2.2.2.2⟩
  show upd (a1 4) k y j = upd (a 4) k y j
  by_cases e : j = k
  · rw [e, pk_us, pk_us]
  · rw [pk_un e, pk_un e]; exact h.2.2.2.1 j hj
theorem sh_stick {g g1 : Nat → Int32} {a a1 : Nat → Nat → Int32} (h : Sh g a g1 a1) (r c y : Int32) : Sh g (aStick g a r c y) g1 (aStick g1 a1 r c y) := by
  unfold aStick
  rw [sh_hc h, h.g (by decide : 2 ∈ shl)]
  by_cases h1 : hc g r c = 0
  · rw [if_pos h1, if_pos h1]; exact h
  · rw [if_neg h1, if_neg h1]
    by_cases h2 : wi y (-1) (g 2) = 0
    · rw [if_pos h2, if_pos h2]; exact h
    · rw [if_neg h2, if_neg h2]; exact sh_ups1 h _ _
theorem eq_input {fl : Nat} {g g1 : Nat → Int32} {a a1 : Nat → Nat → Int32} (hV : IV fl g a) (h : Sh g a g1 a1) (r x : Int32) : gInput g1 a1 r x = gInput g a r x := by
  unfold gInput
  rw [h.g (by decide : 0 ∈ shl)]
  by_cases h1 : wi r 0 (g 0 - 1) = 0
  · rw [if_pos h1, if_pos h1]
  · rw [if_neg h1, if_neg h1]
    obtain ⟨R, C, T, n, m, D, F, ⟨⟨d0, d0a, d0b⟩, -⟩, -⟩ := hV
    obtain ⟨j, rfl, hj⟩ := wi_in d0 (by omega) h1
    rw [nI_clamp (by omega), h.2.2.1 j (by omega)]
theorem sh_input {g g1 : Nat → Int32} {a a1 : Nat → Nat → Int32} (h : Sh g a g1 a1) (r x : Int32) : Sh g (aInput g a r x) g1 (aInput g1 a1 r x) := by
  unfold aInput
  rw [h.g (by decide : 0 ∈ shl)]
  by_cases h1 : wi r 0 (g 0 - 1) = 0
  · rw [if_pos h1, if_pos h1]; exact h
  · rw [if_neg h1, if_neg h1]
    by_cases h2 : wi x 0 255 = 0
    · rw [if_pos h2, if_pos h2]; exact h
    · rw [if_neg h2, if_neg h2]; exact sh_ups3 h _ _
theorem eq_bits {g g1 : Nat → Int32} {a a1 : Nat → Nat → Int32} (h : Sh g a g1 a1) (b : Int32) : gBits g1 b = gBits g b := by
  unfold gBits; rw [h.g (by decide : 3 ∈ shl)]
theorem shl_ug {g g1 : Nat → Int32} {k : Nat} {x : Int32} (h : ∀ i, i ∈ shl → g1 i = g i) : ∀ i, i ∈ shl → ug g1 k x i = ug g k x i := by
  intro i hi
  unfold ug
  rw [h i hi]
theorem fN_ug {g : Nat → Int32} {k : Nat} {x : Int32} (h : 15 ≠ k) : fN (ug g k x) = fN g := congrArg Int32.toNatClampNeg (ug_n h)
theorem sh_ug {g g1 : Nat → Int32} {a a1 : Nat → Nat → Int32} (h : Sh g a g1 a1) (k : Nat) (hk : 15 ≠ k) (x : Int32) : Sh (ug g k x) a (ug g1 k x) a1 :=
  ⟨shl_ug h.1, h.2.1, h.2.2.1, h.2.2.2.1, fun j hj => h.2.2.2.2.1 j (by rw [fN_ug hk] at hj; exact hj), h.2.2.2.2.2⟩
theorem sh_bits {g g1 : Nat → Int32} {a a1 : Nat → Nat → Int32} (h : Sh g a g1 a1) (b : Int32) : Sh (sBits g b) a (sBits g1 b) a1 := by
  unfold sBits
  by_cases h1 : wi b 1 16 = 0
  · rw [if_pos h1, if_pos h1]; exact h
  · rw [if_neg h1, if_neg h1]; exact sh_ug h 3 (by decide) b
theorem sh_mesh {g g1 : Nat → Int32} {a a1 : Nat → Nat → Int32} (h : Sh g a g1 a1) (r c u : Int32) : Sh (sMesh g r c u) (aMesh a r c u) (sMesh g1 r c u) (aMesh a1 r c u) := by
  unfold sMesh aMesh
  by_cases h1 : wi r 1 8 = 0
  · rw [if_pos h1, if_pos h1, if_pos h1, if_pos h1]; exact h
  · rw [if_neg h1, if_neg h1, if_neg h1, if_neg h1]
    by_cases h2 : wi c 1 24 = 0
    · rw [if_pos h2, if_pos h2, if_pos h2, if_pos h2]; exact h
    · rw [if_neg h2, if_neg h2, if_neg h2, if_neg h2]
      by_cases h3 : wi u 1 15 = 0
      · rw [if_pos h3, if_pos h3, if_pos h3, if_pos h3]; exact h
      · rw [if_neg h3, if_neg h3, if_neg h3, if_neg h3]
        have k := sh_ug (sh_ug (sh_ug (sh_ug (sh_ug (sh_ug (sh_ug (sh_ug (sh_ug h 0 (by decide) r) 1 (by decide) c) 2 (by decide) u) 3 (by decide) 16) 4 (by decide) 0) 5 (by decide) 0) 6 (by decide) 0) 8 (by decide) 0) 9 (by decide) 0
        exact ⟨k.1, fun _ _ => rfl, fun _ _ => rfl, k.2.2.2.1, k.2.2.2.2⟩
theorem eq_table {g g1 : Nat → Int32} {a a1 : Nat → Nat → Int32} (h : Sh g a g1 a1) (p q d : Int32) : gTable g1 p q d = gTable g p q d := by
  unfold gTable; rw [h.g (by decide : 0 ∈ shl), h.g (by decide : 1 ∈ shl)]
theorem sh_table {g g1 : Nat → Int32} {a a1 : Nat → Nat → Int32} (h : Sh g a g1 a1) (p q d : Int32) : Sh (sTable g p q d) (aTable g a p q d) (sTable g1 p q d) (aTable g1 a1 p q d) := by
  unfold sTable aTable
  rw [h.g (by decide : 0 ∈ shl), h.g (by decide : 1 ∈ shl)]
  by_cases h1 : wi p 1 (g 0) = 0
  · rw [if_pos h1, if_pos h1, if_pos h1, if_pos h1]; exact h
  · rw [if_neg h1, if_neg h1, if_neg h1, if_neg h1]
    by_cases h2 : wi q 1 12 = 0
    · rw [if_pos h2, if_pos h2, if_pos h2, if_pos h2]; exact h
    · rw [if_neg h2, if_neg h2, if_neg h2, if_neg h2]
      by_cases h3 : wi d 1 6 = 0
      · rw [if_pos h3, if_pos h3, if_pos h3, if_pos h3]; exact h
      · rw [if_neg h3, if_neg h3, if_neg h3, if_neg h3]
        by_cases h4 : 2 * d * q ≤ g 1
        · rw [if_pos h4, if_pos h4, if_pos h4, if_pos h4]
          have k := sh_ug (sh_ug (sh_ug (sh_ug h 4 (by decide) p) 5 (by decide) q) 6 (by decide) d) 8 (by decide) 0
          exact ⟨k.1, k.2.1, k.2.2.1, fun _ _ => rfl, k.2.2.2.2.1, fun _ _ => rfl⟩
        · rw [if_neg h4, if_neg h4, if_neg h4, if_neg h4]; exact h
theorem eq_gre {g g1 : Nat → Int32} {a a1 : Nat → Nat → Int32} (h : Sh g a g1 a1) : gre g1 = gre g := by
  unfold gre; rw [h.g (by decide : 2 ∈ shl), h.g (by decide : 6 ∈ shl)]
theorem eq_num {fl : Nat} {g g1 : Nat → Int32} {a a1 : Nat → Nat → Int32} (hV : IV fl g a) (h : Sh g a g1 a1) (i k y : Int32) : gNum g1 a1 i k y = gNum g a i k y := by
  unfold gNum
  rw [h.g (by decide : 4 ∈ shl), h.g (by decide : 5 ∈ shl), eq_gre h]
  by_cases h1 : wi i 0 (g 4 - 1) = 0
  · rw [if_pos h1, if_pos h1]
  · rw [if_neg h1, if_neg h1]
    by_cases h2 : wi k 0 (g 5 - 1) = 0
    · rw [if_pos h2, if_pos h2]
    · rw [if_neg h2, if_neg h2]
      obtain ⟨R, C, T, n, m, D, F, ⟨⟨d0, d0a, d0b⟩, ⟨d1, d1a, d1b⟩, -, ⟨d4, d4a⟩, d5, ⟨d6, d6a⟩, dcm, dn0, dn1⟩, -⟩ := hV
      obtain ⟨ii, rfl, hii⟩ := wi_in d4 (by omega) h1
      have hm12 : m ≤ 12 := m12 (n := n) dcm d1b (dn1 (by omega)).1
      obtain ⟨kk, rfl, hkk⟩ := wi_in d5 (by omega) h2
      rw [nI_clamp (by omega), nI_clamp (by omega), h.2.2.2.1 _ (by omega)]
theorem sh_num {g g1 : Nat → Int32} {a a1 : Nat → Nat → Int32} (h : Sh g a g1 a1) (i k y : Int32) : Sh g (aNum g a i k y) g1 (aNum g1 a1 i k y) := by
  unfold aNum
  rw [h.g (by decide : 4 ∈ shl), h.g (by decide : 5 ∈ shl), eq_gre h]
  by_cases h1 : wi i 0 (g 4 - 1) = 0
  · rw [if_pos h1, if_pos h1]; exact h
  · rw [if_neg h1, if_neg h1]
    by_cases h2 : wi k 0 (g 5 - 1) = 0
    · rw [if_pos h2, if_pos h2]; exact h
    · rw [if_neg h2, if_neg h2]
      by_cases h3 : wi y (-(gre g)) (gre g) = 0
      · rw [if_pos h3, if_pos h3]; exact h
      · rw [if_neg h3, if_neg h3]; exact sh_ups4 h _ _
theorem eq_ex {g g1 : Nat → Int32} {a a1 : Nat → Nat → Int32} (h : Sh g a g1 a1) : ex g1 = ex g := by
  unfold ex; rw [h.g (by decide : 4 ∈ shl)]
theorem sh_lay {g g1 : Nat → Int32} {a a1 : Nat → Nat → Int32} (h : Sh g a g1 a1) : Sh (sLay g) a (sLay g1) a1 := by
  unfold sLay
  rw [eq_ex h]
  by_cases h1 : ex g = 0
  · rw [if_pos h1, if_pos h1]; exact h
  · rw [if_neg h1, if_neg h1]; exact sh_ug h 8 (by decide) 1
theorem dueS_eq {a a1 : Nat → Nat → Int32} {k : Nat} (hk : k < 12) (h3 : ∀ j, j < 8 → a1 3 j = a 3 j) (h4 : ∀ j, j < 96 → a1 4 j = a 4 j) : ∀ n, n ≤ 8 → dueS a1 k n = dueS a k n
  | 0, _ => rfl
  | n + 1, hn => by
    rw [dueS, dueS, dueS_eq hk h3 h4 n (by omega), h3 n (by omega), h4 _ (by omega)]
theorem eq_due {fl : Nat} {g g1 : Nat → Int32} {a a1 : Nat → Nat → Int32} (hV : IV fl g a) (h : Sh g a g1 a1) (k : Int32) : gDue g1 a1 k = gDue g a k := by
  unfold gDue
  rw [h.g (by decide : 4 ∈ shl), h.g (by decide : 5 ∈ shl)]
  by_cases h2 : wi k 0 (g 5 - 1) = 0
  · rw [if_pos h2, if_pos h2]
  · rw [if_neg h2, if_neg h2]
    obtain ⟨R, C, T, n, m, D, F, ⟨⟨d0, d0a, d0b⟩, ⟨d1, d1a, d1b⟩, -, ⟨d4, d4a⟩, d5, ⟨d6, d6a⟩, dcm, dn0, dn1⟩, -⟩ := hV
    have hm12 : m ≤ 12 := (Nat.eq_zero_or_pos n).elim (fun e => by rw [dn0 e]; omega) (fun e => m12 (n := n) dcm d1b (dn1 (by omega)).1)
    obtain ⟨kk, rfl, hkk⟩ := wi_in d5 (by omega) h2
    rw [d4, nI_clamp (by omega), nI_clamp (by omega), dueS_eq (by omega) h.2.2.1 h.2.2.2.1 n (by omega)]
theorem eq_en {g g1 : Nat → Int32} {a a1 : Nat → Nat → Int32} (h : Sh g a g1 a1) : gEn g1 = gEn g := by
  unfold gEn; rw [eq_ex h, h.g (by decide : 4 ∈ shl), h.g (by decide : 2 ∈ shl)]
theorem sh_find {g g1 : Nat → Int32} {a a1 : Nat → Nat → Int32} (h : Sh g a g1 a1) (k s t : Int32) : Sh (sFind k s t g) (aFind k s t a) (sFind k s t g1) (aFind k s t a1) := by
  unfold sFind aFind
  by_cases h1 : wi k 1 3 = 0
  · rw [if_pos h1, if_pos h1, if_pos h1, if_pos h1]; exact h
  · rw [if_neg h1, if_neg h1, if_neg h1, if_neg h1]
    by_cases h2 : wi s k 5 = 0
    · rw [if_pos h2, if_pos h2, if_pos h2, if_pos h2]; exact h
    · rw [if_neg h2, if_neg h2, if_neg h2, if_neg h2]
      by_cases h3 : wi t 0 ((1 : Int32) <<< ((1 : Int32) <<< (k &&& 31) &&& 31) - 1) = 0
      · rw [if_pos h3, if_pos h3, if_pos h3, if_pos h3]; exact h
      · rw [if_neg h3, if_neg h3, if_neg h3, if_neg h3]
        generalize fdZ k s t = z
        obtain ⟨B, q⟩ := z
        cases q with
        | none => exact sh_ug h 14 (by decide) _
        | some p => exact ⟨shl_ug (shl_ug (shl_ug h.1)), h.2.1, h.2.2.1, h.2.2.2.1, fun _ _ => rfl, h.2.2.2.2.2⟩
theorem eq_actAt {fl : Nat} {g g1 : Nat → Int32} {a a1 : Nat → Nat → Int32} (hV : IV fl g a) (h : Sh g a g1 a1) (i u : Int32) : gActAt g1 a1 i u = gActAt g a i u := by
  unfold gActAt
  rw [h.g (by decide : 15 ∈ shl)]
  by_cases h0 : wi u 0 2 = 0
  · rw [if_pos h0, if_pos h0]
  · rw [if_neg h0, if_neg h0]
    by_cases h1 : wi i 0 (g 15 - 1) = 0
    · rw [if_pos h1, if_pos h1]
    · rw [if_neg h1, if_neg h1]
      obtain ⟨R, C, T, n, m, D, F, -, ⟨dF, dF1, dF2⟩, -⟩ := hV
      obtain ⟨j, rfl, hj⟩ := wi_in dF (by omega) h1
      rw [nI_clamp (by omega), h.2.2.2.2.1 j (by unfold fN; rw [dF, nI_clamp (by omega)]; exact hj)]
theorem skC_eq {a a1 : Nat → Nat → Int32} {r : Nat} (hr : r < 8) (h : ∀ j, j < 192 → a1 1 j = a 1 j) : ∀ c, c ≤ 24 → skC a1 r c = skC a r c
  | 0, _ => rfl
  | c + 1, hc => by
    rw [skC, skC, skC_eq hr h c (by omega), h _ (by omega)]
theorem skR_eq {a a1 : Nat → Nat → Int32} {C : Nat} (hC : C ≤ 24) (h : ∀ j, j < 192 → a1 1 j = a 1 j) : ∀ r, r ≤ 8 → skR a1 C r = skR a C r
  | 0, _ => rfl
  | r + 1, hr => by
    rw [skR, skR, skR_eq hC h r (by omega), skC_eq (by omega) h C hC]
theorem eq_count {fl : Nat} {g g1 : Nat → Int32} {a a1 : Nat → Nat → Int32} (hV : IV fl g a) (h : Sh g a g1 a1) (x : Int32) : gCount g1 a1 x = gCount g a x := by
  unfold gCount
  obtain ⟨R, C, T, n, m, D, F, ⟨⟨d0, d0a, d0b⟩, ⟨d1, d1a, d1b⟩, -⟩, -⟩ := hV
  rw [h.g (by decide : 0 ∈ shl), h.g (by decide : 1 ∈ shl), h.g (by decide : 2 ∈ shl), h.g (by decide : 4 ∈ shl), h.g (by decide : 5 ∈ shl), h.g (by decide : 6 ∈ shl), h.g (by decide : 8 ∈ shl), h.g (by decide : 9 ∈ shl), skR_eq (by rw [d1, nI_clamp (by omega)]; exact d1b) h.2.1 _ (by rw [d0, nI_clamp (by omega)]; exact d0b)]
/-- class and reference behind the same call -/
theorem Sh.two {G G' g1 g1' : Nat → Int32} {A A' a1 a1' : Nat → Nat → Int32} (h1 : Sh G A g1 a1) (h : Sh G A G' A') (h2 : Sh G' A' g1' a1') : Sh g1 a1 g1' a1' := (h1.sy.tr h).tr h2
/-! CELLS STICK at LEVELS, numbers have a size: kept -/
theorem XV.sh {g g1 : Nat → Int32} {a a1 : Nat → Nat → Int32} (hX : XV a) (h : Sh g a g1 a1) : XV a1 := ⟨fun j hj => by rw [h.2.1 j hj]; exact hX.1 j hj, fun j hj => by rw [h.2.2.2.1 j hj]; exact hX.2 j hj⟩
theorem XV.eq {a a1 : Nat → Nat → Int32} (hX : XV a) (h1 : a1 1 = a 1) (h4 : a1 4 = a 4) : XV a1 := ⟨by rw [h1]; exact hX.1, by rw [h4]; exact hX.2⟩
theorem xv_F : XV aF := ⟨fun _ _ => Or.inl rfl, fun _ _ => (by decide : ¬ abI 0 < 0)⟩
theorem st_lv {y : Int32} {T : Nat} (hT : T ≤ 15) (h : ¬ wi y (-1) (nI T) = 0) : y = -1 ∨ ∃ s, s ≤ 15 ∧ y = nI s := by
  obtain ⟨h1, h2⟩ := wi_get h
  rw [nI_toInt (by omega)] at h2
  have e1 : (-1 : Int32).toInt = -1 := rfl
  by_cases q : y < 0
  · left
    rw [Int32.lt_iff_toInt_lt] at q
    have e0 : (0 : Int32).toInt = 0 := rfl
    exact Int32.toInt_inj.mp (by omega)
  · right
    obtain ⟨s, hs, rfl⟩ := nI_of q
    rw [nI_toInt hs] at h2
    exact ⟨s, by omega, rfl⟩
theorem xv_stick {fl : Nat} {g : Nat → Int32} {a : Nat → Nat → Int32} (hV : IV fl g a) (hX : XV a) (r c y : Int32) : XV (aStick g a r c y) := by
  unfold aStick
  by_cases h1 : hc g r c = 0
  · rw [if_pos h1]; exact hX
  · rw [if_neg h1]
    by_cases h2 : wi y (-1) (g 2) = 0
    · rw [if_pos h2]; exact hX
    · rw [if_neg h2]
      obtain ⟨R, C, T, n, m, D, F, ⟨-, -, ⟨d2, d2a, d2b⟩, -⟩, -⟩ := hV
      rw [d2] at h2
      refine ⟨fun j hj => ?_, hX.2⟩
      show upd (a 1) _ y j = -1 ∨ ∃ s, s ≤ 15 ∧ upd (a 1) _ y j = nI s
      by_cases e : j = (r * 24 + c).toNatClampNeg
      · rw [e, pk_us]; exact st_lv d2b h2
      · rw [pk_un e]; exact hX.1 j hj
theorem xv_mesh {a : Nat → Nat → Int32} (hX : XV a) (r c u : Int32) : XV (aMesh a r c u) := by
  unfold aMesh
  by_cases h1 : wi r 1 8 = 0
  · rw [if_pos h1]; exact hX
  · rw [if_neg h1]
    by_cases h2 : wi c 1 24 = 0
    · rw [if_pos h2]; exact hX
    · rw [if_neg h2]
      by_cases h3 : wi u 1 15 = 0
      · rw [if_pos h3]; exact hX
      · rw [if_neg h3]; exact ⟨fun _ _ => Or.inl rfl, hX.2⟩
theorem xv_table {g : Nat → Int32} {a : Nat → Nat → Int32} (hX : XV a) (p q d : Int32) : XV (aTable g a p q d) := by
  unfold aTable
  by_cases h1 : wi p 1 (g 0) = 0
  · rw [if_pos h1]; exact hX
  · rw [if_neg h1]
    by_cases h2 : wi q 1 12 = 0
    · rw [if_pos h2]; exact hX
    · rw [if_neg h2]
      by_cases h3 : wi d 1 6 = 0
      · rw [if_pos h3]; exact hX
      · rw [if_neg h3]
        by_cases h4 : 2 * d * q ≤ g 1
        · rw [if_pos h4]; exact ⟨hX.1, fun _ _ => (by decide : ¬ abI 0 < 0)⟩
        · rw [if_neg h4]; exact hX
theorem pw_nat (b : Nat) : ∀ k : Nat, pwI (nI b) k = nI (b ^ k)
  | 0 => rfl
  | k + 1 => by rw [pwI, pw_nat b k, pk_mul, Nat.pow_succ]
theorem gre_nat {g : Nat → Int32} {T D : Nat} (d2 : g 2 = nI T) (hT : T ≤ 15) (d6 : g 6 = nI D) (hD : D ≤ 6) : ∃ q, q < 16777216 ∧ gre g = nI q := by
  have h1 : (T + 1) ^ D ≤ 16 ^ 6 := Nat.le_trans (Nat.pow_le_pow_left (by omega) D) (Nat.pow_le_pow_right (by omega) hD)
  have h2 : 1 ≤ (T + 1) ^ D := Nat.pow_pos (by omega)
  have h3 : (16 : Nat) ^ 6 = 16777216 := rfl
  refine ⟨(T + 1) ^ D - 1, by omega, ?_⟩
  unfold gre
  rw [d2, d6, nI_clamp (by omega), nI_1, pw_nat]
  exact pk_sub (b := 1) h2
theorem neg_toI {x : Int32} (h : -2147483648 < x.toInt) : (-x).toInt = -x.toInt := by
  have h1 := x.toInt_lt
  rw [Int32.toInt_neg, Int.bmod_def]
  omega
theorem ab_num {y : Int32} {q : Nat} (hq : q < 16777216) (h : ¬ wi y (-(nI q)) (nI q) = 0) : ¬ abI y < 0 := by
  obtain ⟨h1, h2⟩ := wi_get h
  rw [nI_toInt (by omega)] at h2
  rw [neg_toI (by rw [nI_toInt (by omega)]; omega), nI_toInt (by omega)] at h1
  by_cases q0 : y < 0
  · rw [ab_n q0, Int32.not_lt, Int32.le_iff_toInt_le, neg_toI (by omega)]
    rw [Int32.lt_iff_toInt_lt] at q0
    have e0 : (0 : Int32).toInt = 0 := rfl
    omega
  · rw [ab_p q0]; exact q0
theorem xv_num {fl : Nat} {g : Nat → Int32} {a : Nat → Nat → Int32} (hV : IV fl g a) (hX : XV a) (i k y : Int32) : XV (aNum g a i k y) := by
  unfold aNum
  by_cases h1 : wi i 0 (g 4 - 1) = 0
  · rw [if_pos h1]; exact hX
  · rw [if_neg h1]
    by_cases h2 : wi k 0 (g 5 - 1) = 0
    · rw [if_pos h2]; exact hX
    · rw [if_neg h2]
      by_cases h3 : wi y (-(gre g)) (gre g) = 0
      · rw [if_pos h3]; exact hX
      · rw [if_neg h3]
        obtain ⟨R, C, T, n, m, D, F, ⟨-, -, ⟨d2, d2a, d2b⟩, -, -, ⟨d6, d6a⟩, -⟩, -⟩ := hV
        obtain ⟨q, hq, eq⟩ := gre_nat d2 d2b d6 d6a
        rw [eq] at h3
        refine ⟨hX.1, fun j hj => ?_⟩
        show ¬ abI (upd (a 4) _ y j) < 0
        by_cases e : j = i.toNatClampNeg * 12 + k.toNatClampNeg
        · rw [e, pk_us]; exact ab_num hq h3
        · rw [pk_un e]; exact hX.2 j hj
theorem xv_input {g : Nat → Int32} {a : Nat → Nat → Int32} (hX : XV a) (r x : Int32) : XV (aInput g a r x) := by
  unfold aInput
  by_cases h1 : wi r 0 (g 0 - 1) = 0
  · rw [if_pos h1]; exact hX
  · rw [if_neg h1]
    by_cases h2 : wi x 0 255 = 0
    · rw [if_pos h2]; exact hX
    · rw [if_neg h2]; exact hX.eq rfl rfl
theorem xv_find {a : Nat → Nat → Int32} (hX : XV a) (k s t : Int32) : XV (aFind k s t a) := by
  unfold aFind
  by_cases h1 : wi k 1 3 = 0
  · rw [if_pos h1]; exact hX
  · rw [if_neg h1]
    by_cases h2 : wi s k 5 = 0
    · rw [if_pos h2]; exact hX
    · rw [if_neg h2]
      by_cases h3 : wi t 0 ((1 : Int32) <<< ((1 : Int32) <<< (k &&& 31) &&& 31) - 1) = 0
      · rw [if_pos h3]; exact hX
      · rw [if_neg h3]
        generalize fdZ k s t = z
        obtain ⟨B, q⟩ := z
        cases q with
        | none => exact hX
        | some p => exact hX.eq rfl rfl
theorem xv_map {g : Nat → Int32} {a : Nat → Nat → Int32} (hX : XV a) : XV (aMap g a) := by
  unfold aMap
  by_cases h1 : ex g = 0
  · rw [if_pos h1]; exact hX
  · rw [if_neg h1]; exact hX.eq rfl rfl
theorem wt_cg {b : Int32} {a a1 : Nat → Nat → Int32} {D i c m : Nat} (h4 : ∀ j, j < 96 → a1 4 j = a 4 j) (hi : i < 8) (hm : m ≤ 12) (hc : c < 2 * D * m) : wtI b a1 D i c = wtI b a D i c := by
  have hD : 0 < D := by
    rcases Nat.eq_zero_or_pos D with e | e
    · subst e; omega
    · exact e
  have hk : c / (2 * D) < m := (Nat.div_lt_iff_lt_mul (by omega)).mpr (by rw [Nat.mul_comm]; exact hc)
  unfold wtI
  rw [h4 _ (by omega)]
theorem co_cg {b : Int32} {a a1 : Nat → Nat → Int32} {D i r m : Nat} (h1 : ∀ j, j < 192 → a1 1 j = a 1 j) (h4 : ∀ j, j < 96 → a1 4 j = a 4 j) (hi : i < 8) (hr : r < 8) (hm : m ≤ 12) (hC : 2 * D * m ≤ 24) : ∀ c, c ≤ 2 * D * m → coI b a1 D i r c = coI b a D i r c
  | 0, _ => rfl
  | c + 1, hc => by
    rw [coI, coI, co_cg h1 h4 hi hr hm hC c (by omega), h1 _ (by omega), wt_cg h4 hi hm (by omega)]
theorem lyC_cg {b : Int32} {a a1 : Nat → Nat → Int32} {D i r m : Nat} (h1 : ∀ j, j < 192 → a1 1 j = a 1 j) (h4 : ∀ j, j < 96 → a1 4 j = a 4 j) (hi : i < 8) (hr : r < 8) (hm : m ≤ 12) (hC : 2 * D * m ≤ 24) : ∀ c, c ≤ 2 * D * m → lyC b a1 D i r c = lyC b a D i r c
  | 0, _ => rfl
  | c + 1, hc => by
    rw [lyC, lyC, lyC_cg h1 h4 hi hr hm hC c (by omega), wt_cg h4 hi hm (by omega), sh_sa (a := a) (a1 := a1) (by rw [nI_clamp (by omega)]; exact h1 _ (by omega))]
theorem lyR_cg {b : Int32} {a a1 : Nat → Nat → Int32} {D m : Nat} (h1 : ∀ j, j < 192 → a1 1 j = a 1 j) (h4 : ∀ j, j < 96 → a1 4 j = a 4 j) (h5 : ∀ j, j < 8 → a1 5 j = a 5 j) (hr : ∀ i, i < 8 → ∃ r, r < 8 ∧ a 5 i = nI r) (hm : m ≤ 12) (hC : 2 * D * m ≤ 24) : ∀ n, n ≤ 8 → lyR b a1 D (2 * D * m) n = lyR b a D (2 * D * m) n
  | 0, _ => rfl
  | n + 1, hn => by
    obtain ⟨r, hr1, er⟩ := hr n (by omega)
    rw [lyR, lyR, lyR_cg h1 h4 h5 hr hm hC n (by omega), h5 n (by omega), er, nI_clamp (by omega), lyC_cg h1 h4 (by omega) hr1 hm hC _ (Nat.le_refl _)]
theorem eq_lay {fl : Nat} {g g1 : Nat → Int32} {a a1 : Nat → Nat → Int32} (hV : IV fl g a) (h : Sh g a g1 a1) : gLay g1 a1 = gLay g a := by
  unfold gLay
  rw [eq_ex h, h.g (by decide : 2 ∈ shl), h.g (by decide : 4 ∈ shl), h.g (by decide : 5 ∈ shl), h.g (by decide : 6 ∈ shl)]
  by_cases h1 : ex g = 0
  · rw [if_pos h1, if_pos h1]
  · rw [if_neg h1, if_neg h1]
    obtain ⟨R, C, T, n, m, D, F, hd, -, hr, -⟩ := hV
    have hm12 := M12 hd
    obtain ⟨⟨d0, d0a, d0b⟩, ⟨d1, d1a, d1b⟩, -, ⟨d4, d4a⟩, d5, ⟨d6, d6a⟩, dcm, dn0, dn1⟩ := hd
    rw [d4, d5, d6, nI_clamp (by omega), nI_clamp (by omega), nI_clamp (by omega), lyR_cg h.2.1 h.2.2.2.1 h.2.2.2.2.2 hr hm12 (by omega) n (by omega)]
theorem eq_mapped {fl : Nat} {g g1 : Nat → Int32} {a a1 : Nat → Nat → Int32} (hV : IV fl g a) (h : Sh g a g1 a1) (i : Int32) : gMapped g1 a1 i = gMapped g a i := by
  unfold gMapped
  rw [eq_ex h, h.g (by decide : 4 ∈ shl)]
  by_cases h1 : wi i 0 (g 4 - 1) = 0
  · rw [if_pos h1, if_pos h1]
  · rw [if_neg h1, if_neg h1]
    obtain ⟨R, C, T, n, m, D, F, ⟨⟨d0, d0a, d0b⟩, -, -, ⟨d4, d4a⟩, -⟩, -⟩ := hV
    obtain ⟨j, rfl, hj⟩ := wi_in d4 (by omega) h1
    rw [nI_clamp (by omega), h.2.2.2.2.2 j (by omega)]
theorem csN_eq {fl : Nat} {g g1 : Nat → Int32} {a a1 : Nat → Nat → Int32} (hV : IV fl g a) (h : Sh g a g1 a1) : csN g1 a1 = csN g a := by
  funext i r
  unfold csN
  rw [h.g (by decide : 0 ∈ shl), h.g (by decide : 2 ∈ shl), h.g (by decide : 4 ∈ shl), h.g (by decide : 5 ∈ shl), h.g (by decide : 6 ∈ shl)]
  by_cases h1 : i < (g 4).toNatClampNeg ∧ r < (g 0).toNatClampNeg
  · rw [if_pos h1, if_pos h1]
    obtain ⟨R, C, T, n, m, D, F, hd, -⟩ := hV
    have hm12 := M12 hd
    obtain ⟨⟨d0, d0a, d0b⟩, ⟨d1, d1a, d1b⟩, -, ⟨d4, d4a⟩, d5, ⟨d6, d6a⟩, dcm, dn0, dn1⟩ := hd
    rw [d4, d0, nI_clamp (by omega), nI_clamp (by omega)] at h1
    rw [d5, d6, nI_clamp (by omega), nI_clamp (by omega), co_cg h.2.1 h.2.2.2.1 (by omega) (by omega) hm12 (by omega) _ (Nat.le_refl _)]
  · rw [if_neg h1, if_neg h1]
theorem eq_map {fl : Nat} {g g1 : Nat → Int32} {a a1 : Nat → Nat → Int32} (hV : IV fl g a) (h : Sh g a g1 a1) : gMap g1 a1 = gMap g a := by
  unfold gMap
  rw [eq_ex h, csN_eq hV h, h.g (by decide : 0 ∈ shl), h.g (by decide : 4 ∈ shl)]
theorem sh_map {fl : Nat} {g g1 : Nat → Int32} {a a1 : Nat → Nat → Int32} (hV : IV fl g a) (h : Sh g a g1 a1) : Sh g (aMap g a) g1 (aMap g1 a1) := by
  unfold aMap
  rw [eq_ex h, csN_eq hV h, h.g (by decide : 0 ∈ shl), h.g (by decide : 4 ∈ shl)]
  by_cases h1 : ex g = 0
  · rw [if_pos h1, if_pos h1]; exact h
  · rw [if_neg h1, if_neg h1]
    refine ⟨h.1, h.2.1, h.2.2.1, h.2.2.2.1, h.2.2.2.2.1, fun j hj => ?_⟩
    show (if j < _ then _ else a1 5 j) = (if j < _ then _ else a 5 j)
    rw [h.2.2.2.2.2 j hj]
