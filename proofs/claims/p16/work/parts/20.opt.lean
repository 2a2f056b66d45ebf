/-! the LEVELS that a table row is to have, their costs, and the least sum over orders of ROWS: pure -/
def dgI (b : Int32) : Nat → Int32 → Int32
  | 0, x => x - x / b * b
  | k + 1, x => dgI b k (x / b)
def rsI (b : Int32) : Nat → Int32 → Int32
  | 0, x => x
  | k + 1, x => rsI b k x / b
theorem rsI_in (b x : Int32) : ∀ k : Nat, rsI b k (x / b) = rsI b k x / b
  | 0 => rfl
  | k + 1 => by
    show rsI b k (x / b) / b = rsI b k x / b / b
    rw [rsI_in b x k]
theorem dgI_rs (b : Int32) : ∀ (k : Nat) (x : Int32), dgI b k x = rsI b k x - rsI b k x / b * b
  | 0, _ => rfl
  | k + 1, x => by
    show dgI b k (x / b) = rsI b k x / b - rsI b k x / b / b * b
    rw [dgI_rs b k (x / b), rsI_in]
def abI (x : Int32) : Int32 := if 0 ≤ x then x else 0 - x
/-- the LEVEL that CELL c of table row i is to have -/
def wtI (b : Int32) (a : Nat → Nat → Int32) (D i c : Nat) : Int32 :=
  if a 4 (i * 12 + c / (2 * D)) < 0 then (if c % (2 * D) < D then 0 else dgI b (c % (2 * D) % D) (-(a 4 (i * 12 + c / (2 * D)))))
  else (if c % (2 * D) < D then dgI b (c % (2 * D) % D) (a 4 (i * 12 + c / (2 * D))) else 0)
theorem ab_n {x : Int32} (h : x < 0) : abI x = -x := by
  rw [abI, if_neg (Int32.not_le.mpr h), Int32.zero_sub]
theorem ab_p {x : Int32} (h : ¬ x < 0) : abI x = x := by
  rw [abI, if_pos (Int32.not_lt.mp h)]
theorem wt_at {b : Int32} {a : Nat → Nat → Int32} {D i k e : Nat} (hD : 0 < D) (he : e < 2 * D) : wtI b a D i (2 * D * k + e) =
    if a 4 (i * 12 + k) < 0 then (if e < D then 0 else dgI b (e - D) (abI (a 4 (i * 12 + k)))) else (if e < D then dgI b e (abI (a 4 (i * 12 + k))) else 0) := by
  have e1 : (2 * D * k + e) / (2 * D) = k := by rw [Nat.mul_add_div (by omega), Nat.div_eq_of_lt he, Nat.add_zero]
  have e2 : (2 * D * k + e) % (2 * D) = e := by rw [Nat.mul_add_mod, Nat.mod_eq_of_lt he]
  rw [wtI, e1, e2]
  by_cases hz : a 4 (i * 12 + k) < 0
  · rw [if_pos hz, if_pos hz, ab_n hz]
    by_cases h : e < D
    · rw [if_pos h, if_pos h]
    · rw [if_neg h, if_neg h, show e % D = e - D by rw [Nat.mod_eq_sub_mod (by omega), Nat.mod_eq_of_lt (by omega)]]
  · rw [if_neg hz, if_neg hz, ab_p hz]
    by_cases h : e < D
    · rw [if_pos h, if_pos h, Nat.mod_eq_of_lt h]
    · rw [if_neg h, if_neg h]
/-- the cost of table row i on ROW r, over the first c COLUMNS -/
def coI (b : Int32) (a : Nat → Nat → Int32) (D i r : Nat) : Nat → Int32
  | 0 => 0
  | c + 1 => coI b a D i r c + (if a 1 (r * 24 + c) = -1 then 0 else abI (a 1 (r * 24 + c) - wtI b a D i c))
/-- CELLS STICK at LEVELS; numbers have a size -/
def XV (a : Nat → Nat → Int32) : Prop := (∀ j, j < 192 → a 1 j = -1 ∨ ∃ s, s ≤ 15 ∧ a 1 j = nI s) ∧ (∀ j, j < 96 → ¬ abI (a 4 j) < 0)
theorem dg_le {T : Nat} (hT : T ≤ 15) : ∀ (k y : Nat), y < 2 ^ 31 → ∃ t, t ≤ T ∧ dgI (nI (T + 1)) k (nI y) = nI t
  | 0, y, hy => ⟨y % (T + 1), by have := Nat.mod_lt y (show 0 < T + 1 by omega); omega, pk_rem hy (by omega) (by omega)⟩
  | k + 1, y, hy => by
    show ∃ t, t ≤ T ∧ dgI (nI (T + 1)) k (nI y / nI (T + 1)) = nI t
    rw [pk_div hy (by omega) (by omega)]
    exact dg_le hT k (y / (T + 1)) (Nat.lt_of_le_of_lt (Nat.div_le_self _ _) hy)
theorem wt_le {T : Nat} (hT : T ≤ 15) {a : Nat → Nat → Int32} (hX : XV a) {D i c m : Nat} (hD : 0 < D) (hi : i < 8) (hm : m ≤ 12) (hc : c < 2 * D * m) : ∃ t, t ≤ T ∧ wtI (nI (T + 1)) a D i c = nI t := by
  have hk : c / (2 * D) < m := (Nat.div_lt_iff_lt_mul (by omega)).mpr (by rw [Nat.mul_comm]; exact hc)
  have he : c % (2 * D) < 2 * D := Nat.mod_lt _ (by omega)
  have ec : c = 2 * D * (c / (2 * D)) + c % (2 * D) := (Nat.div_add_mod c (2 * D)).symm
  rw [ec, wt_at hD he]
  obtain ⟨y, hy, ey⟩ := nI_of (hX.2 (i * 12 + c / (2 * D)) (by omega))
  rw [ey]
  by_cases hz : a 4 (i * 12 + c / (2 * D)) < 0
  · rw [if_pos hz]
    by_cases h : c % (2 * D) < D
    · rw [if_pos h]; exact ⟨0, by omega, rfl⟩
    · rw [if_neg h]; exact dg_le hT _ y hy
  · rw [if_neg hz]
    by_cases h : c % (2 * D) < D
    · rw [if_pos h]; exact dg_le hT _ y hy
    · rw [if_neg h]; exact ⟨0, by omega, rfl⟩
theorem ab_sub {s t : Nat} (hs : s ≤ 15) (ht : t ≤ 15) : ∃ q, q ≤ 15 ∧ abI (nI s - nI t) = nI q := by
  by_cases h : t ≤ s
  · rw [pk_sub h]
    exact ⟨s - t, by omega, ab_p (nI_pos (by omega))⟩
  · have h1 : nI s - nI t < 0 := pk_sneg (by omega) (by omega)
    rw [ab_n h1]
    refine ⟨t - s, by omega, ?_⟩
    rw [Int32.neg_sub, pk_sub (by omega)]
theorem co_le {T : Nat} (hT : T ≤ 15) {a : Nat → Nat → Int32} (hX : XV a) {D i r m : Nat} (hD : 0 < D) (hi : i < 8) (hr : r < 8) (hm : m ≤ 12) (hC : 2 * D * m ≤ 24) : ∀ c, c ≤ 2 * D * m → ∃ q, q ≤ 15 * c ∧ coI (nI (T + 1)) a D i r c = nI q
  | 0, _ => ⟨0, by omega, rfl⟩
  | c + 1, hc => by
    obtain ⟨q, hq, e⟩ := co_le hT hX hD hi hr hm hC c (by omega)
    show ∃ q, q ≤ 15 * (c + 1) ∧ coI (nI (T + 1)) a D i r c + _ = nI q
    rw [e]
    by_cases h : a 1 (r * 24 + c) = -1
    · rw [if_pos h]
      exact ⟨q, by omega, Int32.add_zero _⟩
    · rw [if_neg h]
      obtain ⟨s, hs, es⟩ := (hX.1 (r * 24 + c) (by omega)).resolve_left h
      obtain ⟨t, ht, et⟩ := wt_le hT hX (i := i) (c := c) hD hi hm (by omega)
      obtain ⟨p, hp, ep⟩ := ab_sub hs (show t ≤ 15 by omega)
      rw [es, et, ep, nI_add]
      exact ⟨q + p, by omega, rfl⟩
/-- the first least of what is not used -/
def scn (U : Nat) (val : Nat → Nat) : Nat → Option (Nat × Nat)
  | 0 => none
  | q + 1 => if U.testBit q = true then scn U val q else
      match scn U val q with
      | none => some (val q, q)
      | some p => if val q < p.1 then some (val q, q) else some p
theorem scn_ok (U : Nat) (val : Nat → Nat) : ∀ q, (scn U val q = none ∧ ∀ r, r < q → U.testBit r = true) ∨ ∃ v r, scn U val q = some (v, r) ∧ r < q ∧ ¬ U.testBit r = true ∧ val r = v ∧ (∀ x, x < q → ¬ U.testBit x = true → v ≤ val x) ∧ (∀ x, x < r → ¬ U.testBit x = true → v < val x)
  | 0 => Or.inl ⟨rfl, fun r hr => absurd hr (Nat.not_lt_zero r)⟩
  | q + 1 => by
    by_cases hU : U.testBit q = true
    · rcases scn_ok U val q with ⟨h1, h2⟩ | ⟨v, r, h1, h2, h3, h4, h5, h6⟩
      · refine Or.inl ⟨by rw [scn, if_pos hU]; exact h1, fun r hr => ?_⟩
        by_cases e : r = q
        · rw [e]; exact hU
        · exact h2 r (by omega)
      · refine Or.inr ⟨v, r, by rw [scn, if_pos hU]; exact h1, by omega, h3, h4, fun x hx hxU => ?_, h6⟩
        by_cases e : x = q
        · rw [e] at hxU; exact absurd hU hxU
        · exact h5 x (by omega) hxU
    · rcases scn_ok U val q with ⟨h1, h2⟩ | ⟨v, r, h1, h2, h3, h4, h5, h6⟩
      · refine Or.inr ⟨val q, q, by rw [scn, if_neg hU, h1], by omega, hU, rfl, fun x hx hxU => ?_, fun x hx hxU => absurd (h2 x hx) hxU⟩
        by_cases e : x = q
        · rw [e]; exact Nat.le_refl _
        · exact absurd (h2 x (by omega)) hxU
      · by_cases hv : val q < v
        · refine Or.inr ⟨val q, q, by rw [scn, if_neg hU, h1]; exact if_pos hv, by omega, hU, rfl, fun x hx hxU => ?_, fun x hx hxU => ?_⟩
          · by_cases e : x = q
            · rw [e]; exact Nat.le_refl _
            · have := h5 x (by omega) hxU; omega
          · have := h5 x hx hxU; omega
        · refine Or.inr ⟨v, r, by rw [scn, if_neg hU, h1]; exact if_neg hv, by omega, h3, h4, fun x hx hxU => ?_, h6⟩
          by_cases e : x = q
          · rw [e]; omega
          · exact h5 x (by omega) hxU
def opt (cs : Nat → Nat → Nat) (R : Nat) : Nat → Nat → Nat → Nat
  | 0, _, _ => 0
  | k + 1, i, U => ((scn U (fun r => cs i r + opt cs R k (i + 1) (U ||| 1 <<< r)) R).map Prod.fst).getD 0
def pik (cs : Nat → Nat → Nat) (R k i U : Nat) : Nat := ((scn U (fun r => cs i r + opt cs R k (i + 1) (U ||| 1 <<< r)) R).map Prod.snd).getD 0
def pth (cs : Nat → Nat → Nat) (R : Nat) : Nat → Nat → Nat → (Nat → Nat) → (Nat → Nat)
  | 0, _, _, f => f
  | k + 1, i, U, f => pth cs R k (i + 1) (U ||| 1 <<< pik cs R k i U) (un f i (pik cs R k i U))
theorem opt_le {cs : Nat → Nat → Nat} {R M : Nat} (hc : ∀ i r, cs i r ≤ M) : ∀ k i U, opt cs R k i U ≤ M * k
  | 0, _, _ => Nat.zero_le _
  | k + 1, i, U => by
    rw [opt]
    rcases scn_ok U (fun r => cs i r + opt cs R k (i + 1) (U ||| 1 <<< r)) R with ⟨h1, -⟩ | ⟨v, r, h1, h2, h3, h4, -, -⟩
    · rw [h1]; exact Nat.zero_le _
    · rw [h1]
      show v ≤ M * (k + 1)
      have e1 := hc i r
      have e2 := opt_le (R := R) hc k (i + 1) (U ||| 1 <<< r)
      rw [← h4, Nat.mul_succ]
      show cs i r + opt cs R k (i + 1) (U ||| 1 <<< r) ≤ _
      omega
/-- what is left free below q -/
def fre (U : Nat) : Nat → Nat
  | 0 => 0
  | q + 1 => fre U q + (if U.testBit q = true then 0 else 1)
theorem or_bit (U r q : Nat) : (U ||| 1 <<< r).testBit q = (U.testBit q || decide (q = r)) := by
  rw [Nat.testBit_or, Nat.one_shiftLeft, Nat.testBit_two_pow]
  congr 1
  exact decide_eq_decide.mpr ⟨Eq.symm, Eq.symm⟩
theorem fre_or {U r : Nat} (hr : ¬ U.testBit r = true) : ∀ q, fre U q = fre (U ||| 1 <<< r) q + (if r < q then 1 else 0)
  | 0 => by rw [if_neg (by omega)]; rfl
  | q + 1 => by
    show fre U q + _ = fre (U ||| 1 <<< r) q + _ + _
    rw [fre_or hr q, or_bit]
    by_cases e : q = r
    · subst e
      have hf : U.testBit q = false := by simpa using hr
      simp [hf]
    · have e3 : decide (q = r) = false := by simp [e]
      rw [e3, Bool.or_false]
      by_cases h : r < q
      · rw [if_pos h, if_pos (show r < q + 1 by omega)]; omega
      · rw [if_neg h, if_neg (show ¬ r < q + 1 by omega)]; omega
theorem fre_ex {U : Nat} : ∀ q, 1 ≤ fre U q → ∃ r, r < q ∧ ¬ U.testBit r = true
  | 0, h => absurd h (Nat.not_succ_le_zero 0)
  | q + 1, h => by
    by_cases hU : U.testBit q = true
    · rw [fre, if_pos hU, Nat.add_zero] at h
      obtain ⟨r, h1, h2⟩ := fre_ex q h
      exact ⟨r, by omega, h2⟩
    · exact ⟨q, by omega, hU⟩
theorem fre_0 : ∀ q, fre 0 q = q
  | 0 => rfl
  | q + 1 => by rw [fre, fre_0 q, if_neg (by rw [Nat.zero_testBit]; decide)]
/-- the least found so far, with its order -/
def upB (L : Option (Nat × (Nat → Nat))) (c : Nat) (f : Nat → Nat) : Option (Nat × (Nat → Nat)) := match L with
  | none => some (c, f)
  | some p => if c < p.1 then some (c, f) else some p
def fol (U : Nat) (nx : Nat → Option (Nat × (Nat → Nat)) → Option (Nat × (Nat → Nat))) (L : Option (Nat × (Nat → Nat))) : Nat → Option (Nat × (Nat → Nat))
  | 0 => L
  | q + 1 => if U.testBit q = true then fol U nx L q else nx q (fol U nx L q)
def ful (cs : Nat → Nat → Nat) (R : Nat) : Nat → Nat → Nat → (Nat → Nat) → Nat → Option (Nat × (Nat → Nat)) → Option (Nat × (Nat → Nat))
  | 0, _, _, f, p, L => upB L p f
  | k + 1, i, U, f, p, L => fol U (fun r L' => ful cs R k (i + 1) (U ||| 1 <<< r) (un f i r) (p + cs i r) L') L R
theorem ful_prune {cs : Nat → Nat → Nat} {R : Nat} : ∀ (k i U : Nat) (f : Nat → Nat) (p : Nat) (z : Nat × (Nat → Nat)), z.1 ≤ p → ful cs R k i U f p (some z) = some z
  | 0, _, _, f, p, z, h => if_neg (by omega)
  | k + 1, i, U, f, p, z, h => by
    have key : ∀ q, fol U (fun r L' => ful cs R k (i + 1) (U ||| 1 <<< r) (un f i r) (p + cs i r) L') (some z) q = some z := by
      intro q
      induction q with
      | zero => rfl
      | succ q ih =>
        rw [fol, ih]
        by_cases hU : U.testBit q = true
        · rw [if_pos hU]
        · rw [if_neg hU]; exact ful_prune k (i + 1) _ _ _ z (by omega)
    exact key R
theorem ful_eq {cs : Nat → Nat → Nat} {R : Nat} : ∀ (k i U : Nat) (f : Nat → Nat) (p : Nat) (L : Option (Nat × (Nat → Nat))), k ≤ fre U R → ful cs R k i U f p L = upB L (p + opt cs R k i U) (pth cs R k i U f)
  | 0, _, _, f, p, L, _ => rfl
  | k + 1, i, U, f, p, L, hk => by
    have key : ∀ q, q ≤ R → fol U (fun r L' => ful cs R k (i + 1) (U ||| 1 <<< r) (un f i r) (p + cs i r) L') L q = (match scn U (fun r => cs i r + opt cs R k (i + 1) (U ||| 1 <<< r)) q with
        | none => L
        | some z => upB L (p + z.1) (pth cs R k (i + 1) (U ||| 1 <<< z.2) (un f i z.2))) := by
      intro q
      induction q with
      | zero => intro _; rfl
      | succ q ih =>
        intro hq
        rw [fol, scn, ih (by omega)]
        by_cases hU : U.testBit q = true
        · rw [if_pos hU, if_pos hU]
        · rw [if_neg hU, if_neg hU, ful_eq k (i + 1) (U ||| 1 <<< q) (un f i q) (p + cs i q) _ (by have := fre_or hU R; rw [if_pos (by omega)] at this; omega), Nat.add_assoc]
          rcases scn_ok U (fun r => cs i r + opt cs R k (i + 1) (U ||| 1 <<< r)) q with ⟨h1, -⟩ | ⟨v, r, h1, -, -, -, -, -⟩
          · rw [h1]
          · rw [h1]
            dsimp only
            by_cases hv : cs i q + opt cs R k (i + 1) (U ||| 1 <<< q) < v
            · rw [if_pos hv]
              cases L with
              | none => exact if_pos (by show p + _ < p + v; omega)
              | some z =>
                simp only [upB]
                by_cases h2 : p + v < z.1
                · rw [if_pos h2, if_pos (by omega : p + (cs i q + opt cs R k (i + 1) (U ||| 1 <<< q)) < z.1)]
                  exact if_pos (by show p + _ < p + v; omega)
                · rw [if_neg h2]
            · rw [if_neg hv]
              cases L with
              | none => exact if_neg (by show ¬ p + _ < p + v; omega)
              | some z =>
                simp only [upB]
                by_cases h2 : p + v < z.1
                · rw [if_pos h2]
                  exact if_neg (by show ¬ p + _ < p + v; omega)
                · rw [if_neg h2]
                  exact if_neg (by omega)
    rw [ful, key R (Nat.le_refl R), opt, pth, pik]
    obtain ⟨r0, hr0, hr1⟩ := fre_ex R (show 1 ≤ fre U R by omega)
    rcases scn_ok U (fun r => cs i r + opt cs R k (i + 1) (U ||| 1 <<< r)) R with ⟨-, h2⟩ | ⟨v, r, h1, -, -, -, -, -⟩
    · exact absurd (h2 r0 hr0) hr1
    · rw [h1]; rfl
-- sets of ROWS below 256, by their bits
def pcN (u : Nat) : Nat := u % 2 + u / 2 % 2 + u / 4 % 2 + u / 8 % 2 + u / 16 % 2 + u / 32 % 2 + u / 64 % 2 + u / 128 % 2
theorem pc_or : ∀ u, u < 256 → ∀ r, r < 8 → ¬ u.testBit r = true → pcN (u ||| 1 <<< r) = pcN u + 1 := by decide +kernel
theorem pc_lt : ∀ u, u < 256 → ∀ r, r < 8 → ¬ u.testBit r = true → u < u ||| 1 <<< r := by decide +kernel
theorem pc_ex : ∀ R, R < 9 → ∀ u, u < 2 ^ R → pcN u < R → ∃ r, r < R ∧ ¬ u.testBit r = true := by decide +kernel
def bcA (x : Int32) : Int32 := x - ((x.toUInt32 >>> ((1 : Int32).toUInt32 &&& Int32.toUInt32 31)).toInt32 &&& 1431655765)
def bcB (x : Int32) : Int32 := (x &&& 858993459) + ((x.toUInt32 >>> ((2 : Int32).toUInt32 &&& Int32.toUInt32 31)).toInt32 &&& 858993459)
def bcC (x : Int32) : Int32 := x + (x.toUInt32 >>> ((4 : Int32).toUInt32 &&& Int32.toUInt32 31)).toInt32 &&& 252645135
def bcD (x : Int32) : Int32 := x + (x.toUInt32 >>> ((8 : Int32).toUInt32 &&& Int32.toUInt32 31)).toInt32
def bcE (x : Int32) : Int32 := x + (x.toUInt32 >>> ((16 : Int32).toUInt32 &&& Int32.toUInt32 31)).toInt32
theorem bc_ok : ∀ u, u < 256 → bcE (bcD (bcC (bcB (bcA (nI u))))) &&& 63 = nI (pcN u) := by decide +kernel
