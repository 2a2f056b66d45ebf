/-! answers and states respect Sh -/
theorem Sh.g {g g1 : Nat → Int32} {a a1 : Nat → Nat → Int32} (h : Sh g a g1 a1) {i : Nat} (hi : i ∈ shl) : g1 i = g i := h.1 i hi
theorem sh_hc {g g1 : Nat → Int32} {a a1 : Nat → Nat → Int32} (h : Sh g a g1 a1) (r c : Int32) : hc g1 r c = hc g r c := by
  unfold hc; rw [h.g (by decide : 0 ∈ shl), h.g (by decide : 1 ∈ shl)]
theorem sh_sa {a a1 : Nat → Nat → Int32} {z y : Int32} (h : a1 1 z.toNatClampNeg = a 1 z.toNatClampNeg) : sa a1 z y = sa a z y := by
  unfold sa sk; rw [h]
theorem eq_write {fl : Nat} {g g1 : Nat → Int32} {a a1 : Nat → Nat → Int32} (hV : IV fl g a) (h : Sh g a g1 a1) (r c y : Int32) : gWrite g1 a1 r c y = gWrite g a r c y := by
  unfold gWrite
  rw [sh_hc h, h.g (by decide : 2 ∈ shl)]
  by_cases h1 : hc g r c = 0
  · rw [if_pos h1, if_pos h1]
  · rw [if_neg h1, if_neg h1]
    obtain ⟨R, C, T, n, m, D, F, ⟨⟨d0, d0a, d0b⟩, ⟨d1, d1a, d1b⟩, -⟩, -⟩ := hV
    obtain ⟨i, j, rfl, hi, rfl, hj⟩ := hc_nat d0 ⟨d0a, d0b⟩ d1 ⟨d1a, d1b⟩ h1
    rw [sh_sa (a := a) (a1 := a1) (by rw [pl_eq, nI_clamp (by omega)]; exact h.2.1 _ (by omega))]
theorem eq_stick {g g1 : Nat → Int32} {a a1 : Nat → Nat → Int32} (h : Sh g a g1 a1) (r c y : Int32) : gStick g1 r c y = gStick g r c y := by
  unfold gStick
  rw [sh_hc h, h.g (by decide : 2 ∈ shl)]
theorem sh_ups1 {g g1 : Nat → Int32} {a a1 : Nat → Nat → Int32} (h : Sh g a g1 a1) (k : Nat) (y : Int32) : Sh g (ups a 1 k y) g1 (ups a1 1 k y) := by
  refine ⟨h.1, fun j hj => ?_, h.2.2.1, h.2.2.2.1, h.2.2.2.2⟩
  show upd (a1 1) k y j = upd (a 1) k y j
  by_cases e : j = k
  · rw [e, pk_us, pk_us]
  · rw [pk_un e, pk_un e]; exact h.2.1 j hj
theorem sh_ups3 {g g1 : Nat → Int32} {a a1 : Nat → Nat → Int32} (h : Sh g a g1 a1) (k : Nat) (y : Int32) : Sh g (ups a 3 k y) g1 (ups a1 3 k y) := by
  refine ⟨h.1, h.2.1, fun j hj => ?_, h.2.2.2.1, h.2.2.2.2⟩
  show upd (a1 3) k y j = upd (a 3) k y j
  by_cases e : j = k
  · rw [e, pk_us, pk_us]
  · rw [pk_un e, pk_un e]; exact h.2.2.1 j hj
theorem sh_ups4 {g g1 : Nat → Int32} {a a1 : Nat → Nat → Int32} (h : Sh g a g1 a1) (k : Nat) (y : Int32) : Sh g (ups a 4 k y) g1 (ups a1 4 k y) := by
  refine ⟨h.1, h.2.1, h.2.2.1, fun j hj => ?_, h.2.2.2.2⟩
  show upd (a1 4) k y j = upd (a 4) k y j
  by_cases e : j = k
  · rw [e, pk_us, pk_us]
  · rw [pk_un e, pk_un e]; exact h.2.2.2.1 j hj
theorem sh_stick {g g1 : Nat → Int32} {a a1 : Nat → Nat → Int32} (h : Sh g a g1 a1) (r c y : Int32) : Sh g (aStick g a r c y) g1 (aStick g1 a1 r c y) := by
  unfold aStick
  rw [sh_hc h, h.g (by decide : 2 ∈ shl)]
  by_cases h1 : hc g r c = 0
  · rw [if_pos h1, if_pos h1]; exact h
  · rw [if_neg h1, if_neg h1]
    by_cases h2 : wi y (-1) (g 2) = 0
    · rw [if_pos h2, if_pos h2]; exact h
    · rw [if_neg h2, if_neg h2]; exact sh_ups1 h _ _
theorem eq_input {fl : Nat} {g g1 : Nat → Int32} {a a1 : Nat → Nat → Int32} (hV : IV fl g a) (h : Sh g a g1 a1) (r x : Int32) : gInput g1 a1 r x = gInput g a r x := by
  unfold gInput
  rw [h.g (by decide : 0 ∈ shl)]
  by_cases h1 : wi r 0 (g 0 - 1) = 0
  · rw [if_pos h1, if_pos h1]
  · rw [if_neg h1, if_neg h1]
    obtain ⟨R, C, T, n, m, D, F, ⟨⟨d0, d0a, d0b⟩, -⟩, -⟩ := hV
    obtain ⟨j, rfl, hj⟩ := wi_in d0 (by omega) h1
    rw [nI_clamp (by omega), h.2.2.1 j (by omega)]
theorem sh_input {g g1 : Nat → Int32} {a a1 : Nat → Nat → Int32} (h : Sh g a g1 a1) (r x : Int32) : Sh g (aInput g a r x) g1 (aInput g1 a1 r x) := by
  unfold aInput
  rw [h.g (by decide : 0 ∈ shl)]
  by_cases h1 : wi r 0 (g 0 - 1) = 0
  · rw [if_pos h1, if_pos h1]; exact h
  · rw [if_neg h1, if_neg h1]
    by_cases h2 : wi x 0 255 = 0
    · rw [if_pos h2, if_pos h2]; exact h
    · rw [if_neg h2, if_neg h2]; exact sh_ups3 h _ _
theorem eq_bits {g g1 : Nat → Int32} {a a1 : Nat → Nat → Int32} (h : Sh g a g1 a1) (b : Int32) : gBits g1 b = gBits g b := by
  unfold gBits; rw [h.g (by decide : 3 ∈ shl)]
theorem shl_ug {g g1 : Nat → Int32} {k : Nat} {x : Int32} (h : ∀ i, i ∈ shl → g1 i = g i) : ∀ i, i ∈ shl → ug g1 k x i = ug g k x i := by
  intro i hi
  unfold ug
  rw [h i hi]
theorem fN_ug {g : Nat → Int32} {k : Nat} {x : Int32} (h : 15 ≠ k) : fN (ug g k x) = fN g := congrArg Int32.toNatClampNeg (ug_n h)
theorem sh_ug {g g1 : Nat → Int32} {a a1 : Nat → Nat → Int32} (h : Sh g a g1 a1) (k : Nat) (hk : 15 ≠ k) (x : Int32) : Sh (ug g k x) a (ug g1 k x) a1 :=
  ⟨shl_ug h.1, h.2.1, h.2.2.1, h.2.2.2.1, fun j hj => h.2.2.2.2 j (by rw [fN_ug hk] at hj; exact hj)⟩
theorem sh_bits {g g1 : Nat → Int32} {a a1 : Nat → Nat → Int32} (h : Sh g a g1 a1) (b : Int32) : Sh (sBits g b) a (sBits g1 b) a1 := by
  unfold sBits
  by_cases h1 : wi b 1 16 = 0
  · rw [if_pos h1, if_pos h1]; exact h
  · rw [if_neg h1, if_neg h1]; exact sh_ug h 3 (by decide) b
theorem sh_mesh {g g1 : Nat → Int32} {a a1 : Nat → Nat → Int32} (h : Sh g a g1 a1) (r c u : Int32) : Sh (sMesh g r c u) (aMesh a r c u) (sMesh g1 r c u) (aMesh a1 r c u) := by
  unfold sMesh aMesh
  by_cases h1 : wi r 1 8 = 0
  · rw [if_pos h1, if_pos h1, if_pos h1, if_pos h1]; exact h
  · rw [if_neg h1, if_neg h1, if_neg h1, if_neg h1]
    by_cases h2 : wi c 1 24 = 0
    · rw [if_pos h2, if_pos h2, if_pos h2, if_pos h2]; exact h
    · rw [if_neg h2, if_neg h2, if_neg h2, if_neg h2]
      by_cases h3 : wi u 1 15 = 0
      · rw [if_pos h3, if_pos h3, if_pos h3, if_pos h3]; exact h
      · rw [if_neg h3, if_neg h3, if_neg h3, if_neg h3]
        have k := sh_ug (sh_ug (sh_ug (sh_ug (sh_ug (sh_ug (sh_ug (sh_ug (sh_ug h 0 (by decide) r) 1 (by decide) c) 2 (by decide) u) 3 (by decide) 16) 4 (by decide) 0) 5 (by decide) 0) 6 (by decide) 0) 8 (by decide) 0) 9 (by decide) 0
        exact ⟨k.1, fun _ _ => rfl, fun _ _ => rfl, k.2.2.2.1, k.2.2.2.2⟩
theorem eq_table {g g1 : Nat → Int32} {a a1 : Nat → Nat → Int32} (h : Sh g a g1 a1) (p q d : Int32) : gTable g1 p q d = gTable g p q d := by
  unfold gTable; rw [h.g (by decide : 0 ∈ shl), h.g (by decide : 1 ∈ shl)]
theorem sh_table {g g1 : Nat → Int32} {a a1 : Nat → Nat → Int32} (h : Sh g a g1 a1) (p q d : Int32) : Sh (sTable g p q d) (aTable g a p q d) (sTable g1 p q d) (aTable g1 a1 p q d) := by
  unfold sTable aTable
  rw [h.g (by decide : 0 ∈ shl), h.g (by decide : 1 ∈ shl)]
  by_cases h1 : wi p 1 (g 0) = 0
  · rw [if_pos h1, if_pos h1, if_pos h1, if_pos h1]; exact h
  · rw [if_neg h1, if_neg h1, if_neg h1, if_neg h1]
    by_cases h2 : wi q 1 12 = 0
    · rw [if_pos h2, if_pos h2, if_pos h2, if_pos h2]; exact h
    · rw [if_neg h2, if_neg h2, if_neg h2, if_neg h2]
      by_cases h3 : wi d 1 6 = 0
      · rw [if_pos h3, if_pos h3, if_pos h3, if_pos h3]; exact h
      · rw [if_neg h3, if_neg h3, if_neg h3, if_neg h3]
        by_cases h4 : 2 * d * q ≤ g 1
        · rw [if_pos h4, if_pos h4, if_pos h4, if_pos h4]
          have k := sh_ug (sh_ug (sh_ug (sh_ug h 4 (by decide) p) 5 (by decide) q) 6 (by decide) d) 8 (by decide) 0
          exact ⟨k.1, k.2.1, k.2.2.1, fun _ _ => rfl, k.2.2.2.2⟩
        · rw [if_neg h4, if_neg h4, if_neg h4, if_neg h4]; exact h
theorem eq_gre {g g1 : Nat → Int32} {a a1 : Nat → Nat → Int32} (h : Sh g a g1 a1) : gre g1 = gre g := by
  unfold gre; rw [h.g (by decide : 2 ∈ shl), h.g (by decide : 6 ∈ shl)]
theorem eq_num {fl : Nat} {g g1 : Nat → Int32} {a a1 : Nat → Nat → Int32} (hV : IV fl g a) (h : Sh g a g1 a1) (i k y : Int32) : gNum g1 a1 i k y = gNum g a i k y := by
  unfold gNum
  rw [h.g (by decide : 4 ∈ shl), h.g (by decide : 5 ∈ shl), eq_gre h]
  by_cases h1 : wi i 0 (g 4 - 1) = 0
  · rw [if_pos h1, if_pos h1]
  · rw [if_neg h1, if_neg h1]
    by_cases h2 : wi k 0 (g 5 - 1) = 0
    · rw [if_pos h2, if_pos h2]
    · rw [if_neg h2, if_neg h2]
      obtain ⟨R, C, T, n, m, D, F, ⟨⟨d0, d0a, d0b⟩, ⟨d1, d1a, d1b⟩, -, ⟨d4, d4a⟩, d5, ⟨d6, d6a⟩, dcm, dn0, dn1⟩, -⟩ := hV
      obtain ⟨ii, rfl, hii⟩ := wi_in d4 (by omega) h1
      have hm12 : m ≤ 12 := m12 (n := n) dcm d1b (dn1 (by omega)).1
      obtain ⟨kk, rfl, hkk⟩ := wi_in d5 (by omega) h2
      rw [nI_clamp (by omega), nI_clamp (by omega), h.2.2.2.1 _ (by omega)]
theorem sh_num {g g1 : Nat → Int32} {a a1 : Nat → Nat → Int32} (h : Sh g a g1 a1) (i k y : Int32) : Sh g (aNum g a i k y) g1 (aNum g1 a1 i k y) := by
  unfold aNum
  rw [h.g (by decide : 4 ∈ shl), h.g (by decide : 5 ∈ shl), eq_gre h]
  by_cases h1 : wi i 0 (g 4 - 1) = 0
  · rw [if_pos h1, if_pos h1]; exact h
  · rw [if_neg h1, if_neg h1]
    by_cases h2 : wi k 0 (g 5 - 1) = 0
    · rw [if_pos h2, if_pos h2]; exact h
    · rw [if_neg h2, if_neg h2]
      by_cases h3 : wi y (-(gre g)) (gre g) = 0
      · rw [if_pos h3, if_pos h3]; exact h
      · rw [if_neg h3, if_neg h3]; exact sh_ups4 h _ _
theorem eq_ex {g g1 : Nat → Int32} {a a1 : Nat → Nat → Int32} (h : Sh g a g1 a1) : ex g1 = ex g := by
  unfold ex; rw [h.g (by decide : 4 ∈ shl)]
theorem sh_lay {g g1 : Nat → Int32} {a a1 : Nat → Nat → Int32} (h : Sh g a g1 a1) : Sh (sLay g) a (sLay g1) a1 := by
  unfold sLay
  rw [eq_ex h]
  by_cases h1 : ex g = 0
  · rw [if_pos h1, if_pos h1]; exact h
  · rw [if_neg h1, if_neg h1]; exact sh_ug h 8 (by decide) 1
theorem dueS_eq {a a1 : Nat → Nat → Int32} {k : Nat} (hk : k < 12) (h3 : ∀ j, j < 8 → a1 3 j = a 3 j) (h4 : ∀ j, j < 96 → a1 4 j = a 4 j) : ∀ n, n ≤ 8 → dueS a1 k n = dueS a k n
  | 0, _ => rfl
  | n + 1, hn => by
    rw [dueS, dueS, dueS_eq hk h3 h4 n (by omega), h3 n (by omega), h4 _ (by omega)]
theorem eq_due {fl : Nat} {g g1 : Nat → Int32} {a a1 : Nat → Nat → Int32} (hV : IV fl g a) (h : Sh g a g1 a1) (k : Int32) : gDue g1 a1 k = gDue g a k := by
  unfold gDue
  rw [h.g (by decide : 4 ∈ shl), h.g (by decide : 5 ∈ shl)]
  by_cases h2 : wi k 0 (g 5 - 1) = 0
  · rw [if_pos h2, if_pos h2]
  · rw [if_neg h2, if_neg h2]
    obtain ⟨R, C, T, n, m, D, F, ⟨⟨d0, d0a, d0b⟩, ⟨d1, d1a, d1b⟩, -, ⟨d4, d4a⟩, d5, ⟨d6, d6a⟩, dcm, dn0, dn1⟩, -⟩ := hV
    have hm12 : m ≤ 12 := (Nat.eq_zero_or_pos n).elim (fun e => by rw [dn0 e]; omega) (fun e => m12 (n := n) dcm d1b (dn1 (by omega)).1)
    obtain ⟨kk, rfl, hkk⟩ := wi_in d5 (by omega) h2
    rw [d4, nI_clamp (by omega), nI_clamp (by omega), dueS_eq (by omega) h.2.2.1 h.2.2.2.1 n (by omega)]
theorem eq_en {g g1 : Nat → Int32} {a a1 : Nat → Nat → Int32} (h : Sh g a g1 a1) : gEn g1 = gEn g := by
  unfold gEn; rw [eq_ex h, h.g (by decide : 4 ∈ shl), h.g (by decide : 2 ∈ shl)]
theorem sh_find {g g1 : Nat → Int32} {a a1 : Nat → Nat → Int32} (h : Sh g a g1 a1) (k s t : Int32) : Sh (sFind k s t g) (aFind k s t a) (sFind k s t g1) (aFind k s t a1) := by
  unfold sFind aFind
  by_cases h1 : wi k 1 3 = 0
  · rw [if_pos h1, if_pos h1, if_pos h1, if_pos h1]; exact h
  · rw [if_neg h1, if_neg h1, if_neg h1, if_neg h1]
    by_cases h2 : wi s k 5 = 0
    · rw [if_pos h2, if_pos h2, if_pos h2, if_pos h2]; exact h
    · rw [if_neg h2, if_neg h2, if_neg h2, if_neg h2]
      by_cases h3 : wi t 0 ((1 : Int32) <<< ((1 : Int32) <<< (k &&& 31) &&& 31) - 1) = 0
      · rw [if_pos h3, if_pos h3, if_pos h3, if_pos h3]; exact h
      · rw [if_neg h3, if_neg h3, if_neg h3, if_neg h3]
        generalize fdZ k s t = z
        obtain ⟨B, q⟩ := z
        cases q with
        | none => exact sh_ug h 14 (by decide) _
        | some p => exact ⟨shl_ug (shl_ug (shl_ug h.1)), h.2.1, h.2.2.1, h.2.2.2.1, fun _ _ => rfl⟩
theorem eq_actAt {fl : Nat} {g g1 : Nat → Int32} {a a1 : Nat → Nat → Int32} (hV : IV fl g a) (h : Sh g a g1 a1) (i u : Int32) : gActAt g1 a1 i u = gActAt g a i u := by
  unfold gActAt
  rw [h.g (by decide : 15 ∈ shl)]
  by_cases h0 : wi u 0 2 = 0
  · rw [if_pos h0, if_pos h0]
  · rw [if_neg h0, if_neg h0]
    by_cases h1 : wi i 0 (g 15 - 1) = 0
    · rw [if_pos h1, if_pos h1]
    · rw [if_neg h1, if_neg h1]
      obtain ⟨R, C, T, n, m, D, F, -, ⟨dF, dF1, dF2⟩, -⟩ := hV
      obtain ⟨j, rfl, hj⟩ := wi_in dF (by omega) h1
      rw [nI_clamp (by omega), h.2.2.2.2 j (by unfold fN; rw [dF, nI_clamp (by omega)]; exact hj)]
theorem skC_eq {a a1 : Nat → Nat → Int32} {r : Nat} (hr : r < 8) (h : ∀ j, j < 192 → a1 1 j = a 1 j) : ∀ c, c ≤ 24 → skC a1 r c = skC a r c
  | 0, _ => rfl
  | c + 1, hc => by
    rw [skC, skC, skC_eq hr h c (by omega), h _ (by omega)]
theorem skR_eq {a a1 : Nat → Nat → Int32} {C : Nat} (hC : C ≤ 24) (h : ∀ j, j < 192 → a1 1 j = a 1 j) : ∀ r, r ≤ 8 → skR a1 C r = skR a C r
  | 0, _ => rfl
  | r + 1, hr => by
    rw [skR, skR, skR_eq hC h r (by omega), skC_eq (by omega) h C hC]
theorem eq_count {fl : Nat} {g g1 : Nat → Int32} {a a1 : Nat → Nat → Int32} (hV : IV fl g a) (h : Sh g a g1 a1) (x : Int32) : gCount g1 a1 x = gCount g a x := by
  unfold gCount
  obtain ⟨R, C, T, n, m, D, F, ⟨⟨d0, d0a, d0b⟩, ⟨d1, d1a, d1b⟩, -⟩, -⟩ := hV
  rw [h.g (by decide : 0 ∈ shl), h.g (by decide : 1 ∈ shl), h.g (by decide : 2 ∈ shl), h.g (by decide : 4 ∈ shl), h.g (by decide : 5 ∈ shl), h.g (by decide : 6 ∈ shl), h.g (by decide : 8 ∈ shl), h.g (by decide : 9 ∈ shl), skR_eq (by rw [d1, nI_clamp (by omega)]; exact d1b) h.2.1 _ (by rw [d0, nI_clamp (by omega)]; exact d0b)]
/-- class and reference behind the same call -/
theorem Sh.two {G G' g1 g1' : Nat → Int32} {A A' a1 a1' : Nat → Nat → Int32} (h1 : Sh G A g1 a1) (h : Sh G A G' A') (h2 : Sh G' A' g1' a1') : Sh g1 a1 g1' a1' := (h1.sy.tr h).tr h2
