/-! the reference's states of find(): eight bits a cell; its places by a hash -/
def emn (k x : Nat) : Nat → Nat
  | 0 => 0
  | n + 1 => emn k x n ||| (tabs k x n <<< (8 * n))
theorem tb_big {y j : Nat} (h : y < 256) (hj : 8 ≤ j) : y.testBit j = false := Nat.testBit_lt_two_pow (Nat.lt_of_lt_of_le h (Nat.pow_le_pow_right (n := 2) (i := 8) (by omega) hj))
theorem emn_bit {k x : Nat} (hk : k ≤ 3) : ∀ (n j : Nat), (emn k x n).testBit j = (decide (j / 8 < n) && (tabs k x (j / 8)).testBit (j % 8)) := by
  intro n
  induction n with
  | zero => intro j; simp [emn]
  | succ n ih =>
    intro j
    rw [emn, Nat.testBit_or, ih, Nat.testBit_shiftLeft]
    have hlt := tabs_lt (x := x) (c := n) hk
    by_cases h1 : j / 8 < n
    · have h2 : ¬ j ≥ 8 * n := by omega
      have h3 : j / 8 < n + 1 := by omega
      simp [h1, h2, h3]
    · by_cases h4 : j / 8 = n
      · have h2 : j ≥ 8 * n := by omega
        have h5 : j - 8 * n = j % 8 := by omega
        have h3 : j / 8 < n + 1 := by omega
        simp [h1, h2, h3, h5, h4]
      · have h3 : ¬ j / 8 < n + 1 := by omega
        have h6 : (tabs k x n).testBit (j - 8 * n) = false := tb_big hlt (by omega)
        simp [h1, h3, h6]
theorem emn_lt {k x : Nat} (hk : k ≤ 3) (n : Nat) (hn : n ≤ 5) : emn k x n < 2 ^ 40 := by
  apply Nat.lt_pow_two_of_testBit
  intro j hj
  rw [emn_bit hk]
  have h : ¬ j / 8 < n := by omega
  simp [h]
theorem emn_tab {k x n c : Nat} (hk : k ≤ 3) (hc : c < n) : (emn k x n >>> (8 * c)) &&& 255 = tabs k x c := by
  apply Nat.eq_of_testBit_eq
  intro j
  rw [Nat.testBit_and, Nat.testBit_shiftRight, emn_bit hk, show (255 : Nat) = 2 ^ 8 - 1 from rfl, Nat.testBit_two_pow_sub_one]
  have hlt := tabs_lt (x := x) (c := c) hk
  by_cases h : j < 8
  · have h1 : (8 * c + j) / 8 = c := by omega
    have h2 : (8 * c + j) % 8 = j := by omega
    simp [h, h1, h2, hc]
  · rw [tb_big hlt (by omega)]
    simp [h]
theorem mk_bit {k j : Nat} : (Mk k).testBit j = decide (j < 2 ^ k) := Nat.testBit_two_pow_sub_one ..
theorem all_bit {j : Nat} : (4294967295 : Nat).testBit j = decide (j < 32) := by
  rw [show (4294967295 : Nat) = 2 ^ 32 - 1 from rfl, Nat.testBit_two_pow_sub_one]
theorem all_bit64 {j : Nat} : (18446744073709551615 : Nat).testBit j = decide (j < 64) := by
  rw [show (18446744073709551615 : Nat) = 2 ^ 64 - 1 from rfl, Nat.testBit_two_pow_sub_one]
theorem nxt_bit {k s x p q c j : Nat} (h : KS k s) (hx : x < Cap k s) (h1 : k ≤ c) (h2 : c < s) : (nxt k x p q c).testBit j = if (c - k) * 2 ^ k ≤ j ∧ j < (c - k) * 2 ^ k + 2 ^ k then (nei k x p q).testBit (j - (c - k) * 2 ^ k) else x.testBit j := by
  unfold nxt
  have h3 := sh_le h h1 h2
  have h4 := sh_16 h
  rw [Nat.testBit_or, Nat.testBit_and, Nat.testBit_xor, Nat.testBit_shiftLeft, Nat.testBit_shiftLeft, mk_bit, all_bit]
  generalize (c - k) * 2 ^ k = sh at *
  have hxb : 16 ≤ j → x.testBit j = false := fun hj => Nat.testBit_lt_two_pow (Nat.lt_of_lt_of_le hx (Nat.le_trans (cap_le h) (Nat.pow_le_pow_right (n := 2) (i := 16) (by omega) hj)))
  have hnb : 2 ^ k ≤ j - sh → (nei k x p q).testBit (j - sh) = false := fun hj => Nat.testBit_lt_two_pow (Nat.lt_of_lt_of_le nei_lt (Nat.pow_le_pow_right (by omega) hj))
  by_cases c1 : sh ≤ j
  · by_cases c2 : j < sh + 2 ^ k
    · have c3 : j - sh < 2 ^ k := by omega
      have c4 : j < 32 := by omega
      simp [c1, c2, c3, c4]
    · have c3 : ¬ j - sh < 2 ^ k := by omega
      rw [hnb (by omega)]
      by_cases c4 : j < 32
      · simp [c1, c2, c3, c4]
      · rw [hxb (by omega)]; simp [c2]
  · by_cases c4 : j < 32
    · simp [c1, c4]
    · rw [hxb (by omega)]; simp [c1]
theorem tabs_nxt {k s x p q c c' : Nat} (h : KS k s) (hx : x < Cap k s) (h1 : k ≤ c) (h2 : c < s) : tabs k (nxt k x p q c) c' = if c' = c then nei k x p q else tabs k x c' := by
  by_cases hc : c' < k
  · have hne : ¬ c' = c := by omega
    rw [if_neg hne, tabs, if_pos hc, tabs, if_pos hc]
  · rw [tabs, if_neg hc]
    by_cases e : c' = c
    · subst e
      rw [if_pos rfl]
      apply Nat.eq_of_testBit_eq
      intro j
      rw [Nat.testBit_and, Nat.testBit_shiftRight, nxt_bit h hx h1 h2, mk_bit]
      by_cases hj : j < 2 ^ k
      · have hh : (c' - k) * 2 ^ k ≤ (c' - k) * 2 ^ k + j ∧ (c' - k) * 2 ^ k + j < (c' - k) * 2 ^ k + 2 ^ k := ⟨by omega, by omega⟩
        rw [if_pos hh, Nat.add_sub_cancel_left]
        simp [hj]
      · have hn : (nei k x p q).testBit j = false := Nat.testBit_lt_two_pow (Nat.lt_of_lt_of_le nei_lt (Nat.pow_le_pow_right (by omega) (by omega)))
        simp [hj, hn]
    · rw [if_neg e, tabs, if_neg hc]
      apply Nat.eq_of_testBit_eq
      intro j
      rw [Nat.testBit_and, Nat.testBit_shiftRight, nxt_bit h hx h1 h2, mk_bit, Nat.testBit_and, Nat.testBit_shiftRight, mk_bit]
      by_cases hj : j < 2 ^ k
      · have hh : ¬ ((c - k) * 2 ^ k ≤ (c' - k) * 2 ^ k + j ∧ (c' - k) * 2 ^ k + j < (c - k) * 2 ^ k + 2 ^ k) := by
          intro hh
          rcases Nat.lt_or_ge (c' - k) (c - k) with q1 | q1
          · have q2 : (c' - k + 1) * 2 ^ k ≤ (c - k) * 2 ^ k := Nat.mul_le_mul_right _ q1
            rw [Nat.add_mul, Nat.one_mul] at q2
            omega
          · have q3 : c - k + 1 ≤ c' - k := by omega
            have q2 : (c - k + 1) * 2 ^ k ≤ (c' - k) * 2 ^ k := Nat.mul_le_mul_right _ q3
            rw [Nat.add_mul, Nat.one_mul] at q2
            omega
        rw [if_neg hh]
      · simp [hj]
theorem nei_lt256 {k x p q : Nat} (hk : k ≤ 3) : nei k x p q < 256 := Nat.lt_of_le_of_lt Nat.and_le_right (mk_lt hk)
theorem emn_nxt {k s x p q c : Nat} (h : KS k s) (hx : x < Cap k s) (h1 : k ≤ c) (h2 : c < s) : (emn k x s &&& ((255 <<< (8 * c)) ^^^ 18446744073709551615)) ||| (nei k x p q <<< (8 * c)) = emn k (nxt k x p q c) s := by
  have hk3 := h.1.2
  have hs5 := h.2.2
  apply Nat.eq_of_testBit_eq
  intro j
  rw [Nat.testBit_or, Nat.testBit_and, Nat.testBit_xor, Nat.testBit_shiftLeft, Nat.testBit_shiftLeft, all_bit64, emn_bit hk3, emn_bit hk3, tabs_nxt h hx h1 h2, show (255 : Nat) = 2 ^ 8 - 1 from rfl, Nat.testBit_two_pow_sub_one]
  have hn := nei_lt256 (k := k) (x := x) (p := p) (q := q) hk3
  by_cases c1 : j / 8 = c
  · have a1 : j ≥ 8 * c := by omega
    have a2 : j - 8 * c < 8 := by omega
    have a3 : j - 8 * c = j % 8 := by omega
    have a4 : j < 64 := by omega
    have a5 : j / 8 < s := by omega
    have a6 : j % 8 < 8 := by omega
    rw [if_pos c1, a3]
    simp [a1, a4, a5, a6]
  · rw [if_neg c1]
    by_cases a1 : j ≥ 8 * c
    · have a2 : ¬ j - 8 * c < 8 := by omega
      rw [tb_big hn (by omega)]
      by_cases a4 : j < 64
      · simp [a2, a4]
      · have a5 : ¬ j / 8 < s := by omega
        simp [a5]
    · by_cases a4 : j < 64
      · simp [a1, a4]
      · have a5 : ¬ j / 8 < s := by omega
        simp [a1, a5]
theorem emn_inj {k s x y : Nat} (h : KS k s) (hx : x < Cap k s) (hy : y < Cap k s) (e : emn k x s = emn k y s) : x = y := by
  have hk3 := h.1.2
  have hpp : 0 < 2 ^ k := Nat.pow_pos (by omega)
  apply Nat.eq_of_testBit_eq
  intro j
  by_cases hj : j < (s - k) * 2 ^ k
  · obtain ⟨dj, edj⟩ : ∃ dj, dj = j / 2 ^ k := ⟨_, rfl⟩
    have hc : k + dj < s := by
      have q := (Nat.div_lt_iff_lt_mul hpp).mpr hj
      rw [← edj] at q
      omega
    have e2 : tabs k x (k + dj) = tabs k y (k + dj) := by rw [← emn_tab hk3 hc, ← emn_tab hk3 hc, e]
    have hkc : ¬ k + dj < k := by omega
    rw [tabs, if_neg hkc, tabs, if_neg hkc, Nat.add_sub_cancel_left] at e2
    have e3 := congrArg (fun z => z.testBit (j % 2 ^ k)) e2
    rw [Nat.testBit_and, Nat.testBit_and, Nat.testBit_shiftRight, Nat.testBit_shiftRight, mk_bit] at e3
    have hm : j % 2 ^ k < 2 ^ k := Nat.mod_lt _ hpp
    have ej : j / 2 ^ k * 2 ^ k + j % 2 ^ k = j := Nat.div_add_mod' j (2 ^ k)
    rw [edj, ej] at e3
    simpa [hm] using e3
  · have q1 : Cap k s ≤ 2 ^ j := Nat.pow_le_pow_right (by omega) (by omega)
    rw [Nat.testBit_lt_two_pow (Nat.lt_of_lt_of_le hx q1), Nat.testBit_lt_two_pow (Nat.lt_of_lt_of_le hy q1)]
-- the first state
def inI (v e : Nat) : Nat → Nat
  | 0 => e
  | i + 1 => inI v e i ||| (if (v >>> i) &&& 1 = 1 then 1 <<< (8 * i + v) else 0)
def inV (k : Nat) : Nat → Nat
  | 0 => 0
  | v + 1 => inI v (inV k v) k
theorem inV_em {k s : Nat} (h : KS k s) : inV k (2 ^ k) = emn k 0 s := by
  rcases ks_cases h with ⟨rfl, h | h | h | h | h⟩ | ⟨rfl, h | h | h | h⟩ | ⟨rfl, h | h | h⟩ <;> subst h <;> decide +kernel
-- the hash
def hN (z : Int64) : Nat := z.toBitVec.toNat / 2 ^ 50
theorem hN_lt (z : Int64) : hN z < 16384 := by
  unfold hN
  have h : z.toBitVec.toNat < 2 ^ 64 := z.toBitVec.isLt
  exact Nat.div_lt_of_lt_mul (by omega)
theorem hN_eq (z : Int64) : ((z.toUInt64 >>> ((50 : Int32).toInt64.toUInt64 &&& Int64.toUInt64 63)).toInt64).toInt32 = nI (hN z) := by
  have e : (z.toUInt64 >>> ((50 : Int32).toInt64.toUInt64 &&& Int64.toUInt64 63)).toInt64 = lN (hN z) := by
    apply Int64.toBitVec_inj.mp
    show (z.toUInt64 >>> ((50 : Int32).toInt64.toUInt64 &&& Int64.toUInt64 63)).toBitVec = BitVec.ofNat 64 (hN z)
    rw [UInt64.toBitVec_shiftRight]
    apply BitVec.eq_of_toNat_eq
    show (z.toBitVec >>> (((50 : Int32).toInt64.toUInt64 &&& Int64.toUInt64 63).toBitVec % 64).toNat).toNat = _
    rw [show (((50 : Int32).toInt64.toUInt64 &&& Int64.toUInt64 63).toBitVec % 64).toNat = 50 from by decide +kernel]
    rw [BitVec.toNat_ushiftRight, BitVec.toNat_ofNat, Nat.shiftRight_eq_div_pow]
    have h := hN_lt z
    unfold hN at *
    rw [Nat.mod_eq_of_lt (by omega)]
  rw [e, lN_i]
def hK (z : Int64) : Nat := hN (z * (-7046029254386353131))
def HT (cnt : Nat) (U : Nat → Int64) (P : Nat → Int32) : Prop :=
  (∀ p, p < 16384 → ∃ q, q ≤ cnt ∧ P p = nI q) ∧ (∀ p p', p < 16384 → p' < 16384 → P p ≠ 0 → P p = P p' → p = p') ∧
  ∀ i, i < cnt → ∃ n, n < 16384 ∧ P ((hK (U i) + n) % 16384) = nI (i + 1) ∧ ∀ m, m < n → P ((hK (U i) + m) % 16384) ≠ 0
theorem pig : ∀ (n m : Nat) (f : Nat → Nat), (∀ i, i < n → f i < m) → (∀ i j, i < n → j < n → f i = f j → i = j) → n ≤ m := by
  intro n
  induction n with
  | zero => intro m f _ _; omega
  | succ n ih =>
    intro m f hf hi
    have h0 := hf n (by omega)
    have h1 : n ≤ m - 1 := by
      refine ih (m - 1) (fun i => if f n < f i then f i - 1 else f i) (fun i hin => ?_) (fun i j hin hjn e => ?_)
      · have h2 := hf i (by omega)
        have h3 : f i ≠ f n := fun e => by have := hi i n (by omega) (by omega) e; omega
        split <;> omega
      · have h2 : f i ≠ f n := fun e => by have := hi i n (by omega) (by omega) e; omega
        have h3 : f j ≠ f n := fun e => by have := hi j n (by omega) (by omega) e; omega
        apply hi i j (by omega) (by omega)
        split at e <;> split at e <;> omega
    omega
theorem ht_free {cnt : Nat} {U : Nat → Int64} {P : Nat → Int32} (h : HT cnt U P) (hc : cnt ≤ 8000) (b : Nat) : ∃ n, n < 16384 ∧ P ((b + n) % 16384) = 0 := by
  apply Classical.byContradiction
  intro hno
  have hall : ∀ n, n < 16384 → P ((b + n) % 16384) ≠ 0 := fun n hn e => hno ⟨n, hn, e⟩
  have hq : ∀ n, ∃ q, n < 16384 → (q ≤ cnt ∧ P ((b + n) % 16384) = nI q) := by
    intro n
    by_cases hn : n < 16384
    · obtain ⟨q, h1, h2⟩ := h.1 ((b + n) % 16384) (Nat.mod_lt _ (by omega))
      exact ⟨q, fun _ => ⟨h1, h2⟩⟩
    · exact ⟨0, fun h => absurd h hn⟩
  obtain ⟨f, hf⟩ := Classical.axiomOfChoice hq
  have := pig 16384 8001 f (fun i hi => by have := (hf i hi).1; omega) (fun i j hi hj e => by
    have h1 := (hf i hi).2
    have h2 := (hf j hj).2
    have h3 := h.2.1 ((b + i) % 16384) ((b + j) % 16384) (Nat.mod_lt _ (by omega)) (Nat.mod_lt _ (by omega)) (hall i hi) (by rw [h1, h2, e])
    omega)
  omega
theorem ht_add {cnt n : Nat} {U : Nat → Int64} {P : Nat → Int32} {z : Int64} (h : HT cnt U P) (hc : cnt < 8000) (hn : n < 16384) (h0 : P ((hK z + n) % 16384) = 0) (hp : ∀ m, m < n → P ((hK z + m) % 16384) ≠ 0) : HT (cnt + 1) (vp_updL U cnt z) (upd P ((hK z + n) % 16384) (nI (cnt + 1))) := by
  obtain ⟨h1, h2, h3⟩ := h
  have hne : ∀ p, P p ≠ 0 → p ≠ (hK z + n) % 16384 := fun p hp e => hp (by rw [e]; exact h0)
  have hold : ∀ p, p < 16384 → P p ≠ nI (cnt + 1) := by
    intro p hp e
    obtain ⟨q, hq, e2⟩ := h1 p hp
    rw [e2] at e
    have := (nI_eq (by omega) (by omega)).mp e
    omega
  refine ⟨fun p hp => ?_, fun p p' hp hp' hz e => ?_, fun i hi => ?_⟩
  · by_cases e : p = (hK z + n) % 16384
    · rw [e, pk_us]; exact ⟨cnt + 1, Nat.le_refl _, rfl⟩
    · rw [pk_un e]
      obtain ⟨q, hq, e2⟩ := h1 p hp
      exact ⟨q, by omega, e2⟩
  · by_cases e1 : p = (hK z + n) % 16384
    · by_cases e2 : p' = (hK z + n) % 16384
      · rw [e1, e2]
      · rw [e1, pk_us, pk_un e2] at e
        exact absurd e.symm (hold p' hp')
    · by_cases e2 : p' = (hK z + n) % 16384
      · rw [pk_un e1, e2, pk_us] at e
        exact absurd e (hold p hp)
      · rw [pk_un e1] at hz e
        rw [pk_un e2] at e
        exact h2 p p' hp hp' hz e
  · by_cases e : i = cnt
    · subst e
      rw [pk_uLs]
      refine ⟨n, hn, pk_us, fun m hm => ?_⟩
      rw [pk_un (hne _ (hp m hm))]
      exact hp m hm
    · rw [pk_uLn e]
      obtain ⟨m0, q1, q2, q3⟩ := h3 i (by omega)
      have hz0 : P ((hK (U i) + m0) % 16384) ≠ 0 := by rw [q2]; exact nI_ne0 (by omega) (by omega)
      refine ⟨m0, q1, ?_, fun m hm => ?_⟩
      · rw [pk_un (hne _ hz0)]; exact q2
      · rw [pk_un (hne _ (q3 m hm))]; exact q3 m hm
theorem ht_miss {cnt n i : Nat} {U : Nat → Int64} {P : Nat → Int32} {z : Int64} (h : HT cnt U P) (hi : i < cnt) (hc : cnt ≤ 8000) (hu : U i = z) (h0 : P ((hK z + n) % 16384) = 0) (hp : ∀ m, m < n → ∃ j, j < cnt ∧ P ((hK z + m) % 16384) = nI (j + 1) ∧ U j ≠ z) : False := by
  obtain ⟨m0, q1, q2, q3⟩ := h.2.2 i hi
  rw [hu] at q2 q3
  rcases Nat.lt_or_ge m0 n with g | g
  · obtain ⟨j, hj, e, hne⟩ := hp m0 g
    rw [q2] at e
    have e2 := (nI_eq (by omega) (by omega)).mp e
    have e3 : i = j := by omega
    subst e3
    exact hne hu
  · rcases Nat.eq_or_lt_of_le g with e | e
    · subst e
      rw [q2] at h0
      exact nI_ne0 (by omega) (by omega) h0
    · exact q3 n e h0
theorem ht_0 {U : Nat → Int64} {P : Nat → Int32} (h : ∀ p, p < 16384 → P p = 0) : HT 0 U P :=
  ⟨fun p hp => ⟨0, Nat.le_refl _, h p hp⟩, fun p p' hp hp' hz _ => absurd (h p hp) hz, fun i hi => absurd hi (Nat.not_lt_zero i)⟩
theorem ht_upd {cnt : Nat} {U U' : Nat → Int64} {P : Nat → Int32} (h : HT cnt U P) (hu : ∀ i, i < cnt → U' i = U i) : HT cnt U' P :=
  ⟨h.1, h.2.1, fun i hi => by rw [hu i hi]; exact h.2.2 i hi⟩
