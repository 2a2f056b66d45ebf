/-! Int32 and Int64 by their bits; what find() of the class and of the reference is looking at -/
def bt (x : Int32) (i : Nat) : Bool := x.toBitVec.getLsbD i
theorem b_ext {x y : Int32} (h : ∀ i, i < 32 → bt x i = bt y i) : x = y := Int32.toBitVec_inj.mp (BitVec.eq_of_getLsbD_eq (fun i hi => h i hi))
theorem b_or (x y : Int32) (i : Nat) : bt (x ||| y) i = (bt x i || bt y i) := by unfold bt; rw [Int32.toBitVec_or, BitVec.getLsbD_or]
theorem b_and (x y : Int32) (i : Nat) : bt (x &&& y) i = (bt x i && bt y i) := by unfold bt; rw [Int32.toBitVec_and, BitVec.getLsbD_and]
theorem b_xor (x y : Int32) (i : Nat) : bt (x ^^^ y) i = (bt x i ^^ bt y i) := by unfold bt; rw [Int32.toBitVec_xor, BitVec.getLsbD_xor]
theorem b_0 (i : Nat) : bt 0 i = false := BitVec.getLsbD_zero
theorem s_l : ∀ n, n < 32 → ((nI n &&& 31).toBitVec.smod 32).toNat = n := by decide +kernel
theorem b_shl (n : Nat) (hn : n < 32) (x : Int32) {i : Nat} (hi : i < 32) : bt (x <<< (nI n &&& 31)) i = (decide (n ≤ i) && bt x (i - n)) := by
  unfold bt
  rw [Int32.toBitVec_shiftLeft]
  show (x.toBitVec <<< ((nI n &&& 31).toBitVec.smod 32).toNat).getLsbD i = _
  rw [s_l n hn, BitVec.getLsbD_shiftLeft]
  rcases Nat.lt_or_ge i n with h | h
  · simp [h, Nat.not_le.mpr h]
  · simp [hi, h, Nat.not_lt.mpr h]
theorem b_nI {n i : Nat} (hi : i < 32) : bt (nI n) i = n.testBit i := by
  show (BitVec.ofNat 32 n).getLsbD i = _
  rw [BitVec.getLsbD_ofNat]
  simp [hi]
theorem ni_or (x y : Nat) : nI x ||| nI y = nI (x ||| y) := b_ext fun i hi => by rw [b_or, b_nI hi, b_nI hi, b_nI hi, Nat.testBit_or]
theorem ni_and (x y : Nat) : nI x &&& nI y = nI (x &&& y) := b_ext fun i hi => by rw [b_and, b_nI hi, b_nI hi, b_nI hi, Nat.testBit_and]
theorem ni_xor (x y : Nat) : nI x ^^^ nI y = nI (x ^^^ y) := b_ext fun i hi => by rw [b_xor, b_nI hi, b_nI hi, b_nI hi, Nat.testBit_xor]
theorem ni_m1 : (-1 : Int32) = nI 4294967295 := by decide +kernel
theorem ni_shl {x n : Nat} (hn : n < 32) : nI x <<< (nI n &&& 31) = nI (x <<< n) := b_ext fun i hi => by
  rw [b_shl n hn _ hi, b_nI hi, b_nI (by omega : i - n < 32), Nat.testBit_shiftLeft]
theorem ni_shr {x n : Nat} (hx : x < 2 ^ 31) (hn : n < 32) : nI x >>> (nI n &&& 31) = nI (x >>> n) := by
  rw [pk_shrN hx (nI n &&& 31) n (s_l n hn), Nat.shiftRight_eq_div_pow]
-- Int64
def bl (x : Int64) (i : Nat) : Bool := x.toBitVec.getLsbD i
theorem bl_ext {x y : Int64} (h : ∀ i, i < 64 → bl x i = bl y i) : x = y := Int64.toBitVec_inj.mp (BitVec.eq_of_getLsbD_eq (fun i hi => h i hi))
theorem bl_or (x y : Int64) (i : Nat) : bl (x ||| y) i = (bl x i || bl y i) := by unfold bl; rw [Int64.toBitVec_or, BitVec.getLsbD_or]
theorem bl_and (x y : Int64) (i : Nat) : bl (x &&& y) i = (bl x i && bl y i) := by unfold bl; rw [Int64.toBitVec_and, BitVec.getLsbD_and]
theorem bl_xor (x y : Int64) (i : Nat) : bl (x ^^^ y) i = (bl x i ^^ bl y i) := by unfold bl; rw [Int64.toBitVec_xor, BitVec.getLsbD_xor]
theorem s_L : ∀ n, n < 64 → (((nI n).toInt64 &&& 63).toBitVec.smod 64).toNat = n := by decide +kernel
theorem bl_shl (n : Nat) (hn : n < 64) (x : Int64) {i : Nat} (hi : i < 64) : bl (x <<< ((nI n).toInt64 &&& 63)) i = (decide (n ≤ i) && bl x (i - n)) := by
  unfold bl
  rw [Int64.toBitVec_shiftLeft]
  show (x.toBitVec <<< (((nI n).toInt64 &&& 63).toBitVec.smod 64).toNat).getLsbD i = _
  rw [s_L n hn, BitVec.getLsbD_shiftLeft]
  rcases Nat.lt_or_ge i n with h | h
  · simp [h, Nat.not_le.mpr h]
  · simp [hi, h, Nat.not_lt.mpr h]
theorem bl_shr (n : Nat) (hn : n < 64) (x : Int64) {i : Nat} (hi : i < 64) : bl (x >>> ((nI n).toInt64 &&& 63)) i = if n + i < 64 then bl x (n + i) else bl x 63 := by
  unfold bl
  rw [Int64.toBitVec_shiftRight]
  show (x.toBitVec.sshiftRight (((nI n).toInt64 &&& 63).toBitVec.smod 64).toNat).getLsbD i = _
  rw [s_L n hn, BitVec.getLsbD_sshiftRight, BitVec.msb_eq_getLsbD_last]
  simp [hi]
theorem bl_lN {n i : Nat} (hi : i < 64) : bl (lN n) i = n.testBit i := by
  show (BitVec.ofNat 64 n).getLsbD i = _
  rw [BitVec.getLsbD_ofNat]
  simp [hi]
theorem ln_or (x y : Nat) : lN x ||| lN y = lN (x ||| y) := bl_ext fun i hi => by rw [bl_or, bl_lN hi, bl_lN hi, bl_lN hi, Nat.testBit_or]
theorem ln_and (x y : Nat) : lN x &&& lN y = lN (x &&& y) := bl_ext fun i hi => by rw [bl_and, bl_lN hi, bl_lN hi, bl_lN hi, Nat.testBit_and]
theorem ln_xor (x y : Nat) : lN x ^^^ lN y = lN (x ^^^ y) := bl_ext fun i hi => by rw [bl_xor, bl_lN hi, bl_lN hi, bl_lN hi, Nat.testBit_xor]
theorem ln_m1 : (-1 : Int64) = lN 18446744073709551615 := by decide +kernel
theorem ln_shl {x n : Nat} (hn : n < 64) : lN x <<< ((nI n).toInt64 &&& 63) = lN (x <<< n) := bl_ext fun i hi => by
  rw [bl_shl n hn _ hi, bl_lN hi, bl_lN (by omega : i - n < 64), Nat.testBit_shiftLeft]
theorem ln_shr {x n : Nat} (hx : x < 2 ^ 63) (hn : n < 64) : lN x >>> ((nI n).toInt64 &&& 63) = lN (x >>> n) := bl_ext fun i hi => by
  rw [bl_shr n hn _ hi, bl_lN hi, Nat.testBit_shiftRight]
  by_cases h : n + i < 64
  · rw [if_pos h, bl_lN h]
  · rw [if_neg h, bl_lN (by omega), Nat.testBit_lt_two_pow hx]
    exact (Nat.testBit_lt_two_pow (Nat.lt_of_lt_of_le hx (Nat.pow_le_pow_right (by omega) (by omega)))).symm
-- a state met, packed
def pv (x f z : Nat) : Int64 := (nI f).toInt64 <<< ((32 : Int32).toInt64 &&& 63) ||| (nI z <<< ((16 : Int32) &&& 31)).toInt64 ||| (nI x).toInt64
theorem pv_eq {x f z : Nat} (hx : x < 65536) (hf : f < 8000) (hz : z < 512) : pv x f z = lN (f <<< 32 ||| z <<< 16 ||| x) := by
  unfold pv
  have e16 : nI z <<< ((16 : Int32) &&& 31) = nI (z <<< 16) := ni_shl (n := 16) (by omega)
  have hz2 : z <<< 16 < 2 ^ 31 := by rw [Nat.shiftLeft_eq]; omega
  rw [e16, nI_l (by omega : f < 2 ^ 31), nI_l hz2, nI_l (by omega : x < 2 ^ 31)]
  have e32 : lN f <<< ((32 : Int32).toInt64 &&& 63) = lN (f <<< 32) := ln_shl (n := 32) (by omega)
  rw [e32, ln_or, ln_or]
theorem pv_state {x f z : Nat} (hx : x < 65536) (hf : f < 8000) (hz : z < 512) : (pv x f z).toInt32 &&& 65535 = nI x := by
  rw [pv_eq hx hf hz, lN_i, show (65535 : Int32) = nI 65535 from rfl, ni_and]
  congr 1
  apply Nat.eq_of_testBit_eq
  intro i
  rw [Nat.testBit_and, Nat.testBit_or, Nat.testBit_or, Nat.testBit_shiftLeft, Nat.testBit_shiftLeft, show (65535 : Nat) = 2 ^ 16 - 1 from rfl, Nat.testBit_two_pow_sub_one]
  by_cases hi : i < 16
  · have h1 : ¬ i ≥ 32 := by omega
    have h2 : ¬ i ≥ 16 := by omega
    simp [h1, h2, hi]
  · have h3 : x.testBit i = false := Nat.testBit_lt_two_pow (Nat.lt_of_lt_of_le hx (Nat.pow_le_pow_right (n := 2) (i := 16) (by omega) (by omega)))
    simp [hi, h3]
theorem pv_act {x f z : Nat} (hx : x < 65536) (hf : f < 8000) (hz : z < 512) : (pv x f z).toInt32 >>> ((16 : Int32) &&& 31) = nI z := by
  have e : nI (f <<< 32 ||| z <<< 16 ||| x) = nI (z <<< 16 ||| x) := b_ext fun i hi => by
    rw [b_nI hi, b_nI hi, Nat.testBit_or, Nat.testBit_or, Nat.testBit_or, Nat.testBit_shiftLeft]
    have h1 : ¬ i ≥ 32 := by omega
    simp [h1]
  have hlt : z <<< 16 ||| x < 2 ^ 31 := Nat.or_lt_two_pow (by rw [Nat.shiftLeft_eq]; omega) (by omega)
  rw [pv_eq hx hf hz, lN_i, e]
  have e2 := ni_shr (x := z <<< 16 ||| x) (n := 16) hlt (by omega)
  rw [show (nI 16 : Int32) = 16 from rfl] at e2
  rw [e2]
  congr 1
  apply Nat.eq_of_testBit_eq
  intro i
  rw [Nat.testBit_shiftRight, Nat.testBit_or, Nat.testBit_shiftLeft]
  have h3 : x.testBit (16 + i) = false := Nat.testBit_lt_two_pow (Nat.lt_of_lt_of_le hx (Nat.pow_le_pow_right (n := 2) (i := 16) (by omega) (by omega)))
  simp [h3]
theorem pv_from {x f z : Nat} (hx : x < 65536) (hf : f < 8000) (hz : z < 512) : (pv x f z >>> ((32 : Int32).toInt64 &&& 63)).toInt32 = nI f := by
  have hlt : f <<< 32 ||| z <<< 16 ||| x < 2 ^ 63 := Nat.or_lt_two_pow (Nat.or_lt_two_pow (by rw [Nat.shiftLeft_eq]; omega) (by rw [Nat.shiftLeft_eq]; omega)) (by omega)
  rw [pv_eq hx hf hz]
  have e2 := ln_shr (x := f <<< 32 ||| z <<< 16 ||| x) (n := 32) hlt (by omega)
  rw [show (nI 32 : Int32) = 32 from rfl] at e2
  rw [e2, lN_i]
  congr 1
  apply Nat.eq_of_testBit_eq
  intro i
  rw [Nat.testBit_shiftRight, Nat.testBit_or, Nat.testBit_or, Nat.testBit_shiftLeft, Nat.testBit_shiftLeft]
  have h3 : x.testBit (32 + i) = false := Nat.testBit_lt_two_pow (Nat.lt_of_lt_of_le hx (Nat.pow_le_pow_right (n := 2) (i := 16) (by omega) (by omega)))
  have h4 : z.testBit (32 + i - 16) = false := Nat.testBit_lt_two_pow (Nat.lt_of_lt_of_le hz (Nat.pow_le_pow_right (n := 2) (i := 9) (by omega) (by omega)))
  simp [h3, h4]
-- the marks of states seen
def sb (f : Nat → Int32) (y : Nat) : Bool := bt (f (y >>> 5)) (y &&& 31)
theorem and31 (y : Nat) : y &&& 31 < 32 := by
  have h : y &&& 31 ≤ 31 := Nat.and_le_right
  omega
theorem mark0 {y : Int32} {n : Nat} (hn : n < 32) : y &&& nI (1 <<< n) = 0 ↔ bt y n = false := by
  constructor
  · intro h
    have h1 : bt (y &&& nI (1 <<< n)) n = false := by rw [h]; exact b_0 n
    rw [b_and, b_nI hn, Nat.testBit_shiftLeft] at h1
    simpa using h1
  · intro h
    apply b_ext
    intro i hi
    rw [b_and, b_nI hi, b_0, Nat.testBit_shiftLeft]
    by_cases e : i = n
    · subst e; simp [h]
    · by_cases hni : i ≥ n
      · have h2 : i - n ≠ 0 := by omega
        have h3 : Nat.testBit 1 (i - n) = false := by
          cases hq : Nat.testBit 1 (i - n) with
          | false => rfl
          | true => exact absurd (Nat.testBit_one_eq_true_iff_self_eq_zero.mp hq) h2
        simp [h3]
      · simp [hni]
theorem mark1 {y : Int32} {n i : Nat} (hi : i < 32) : bt (y ||| nI (1 <<< n)) i = (bt y i || decide (i = n)) := by
  rw [b_or, b_nI hi, Nat.testBit_shiftLeft]
  congr 1
  by_cases e : i = n
  · subst e; simp
  · by_cases hni : i ≥ n
    · have h2 : i - n ≠ 0 := by omega
      have h3 : Nat.testBit 1 (i - n) = false := by
        cases hq : Nat.testBit 1 (i - n) with
        | false => rfl
        | true => exact absurd (Nat.testBit_one_eq_true_iff_self_eq_zero.mp hq) h2
      simp [h3, e]
    · simp [hni, e]
theorem sb_up {f : Nat → Int32} {x y : Nat} : sb (upd f (x >>> 5) (f (x >>> 5) ||| nI (1 <<< (x &&& 31)))) y = (sb f y || decide (y = x)) := by
  unfold sb
  by_cases hw : y >>> 5 = x >>> 5
  · rw [hw, pk_us, mark1 (and31 y)]
    congr 1
    have e : (y &&& 31 = x &&& 31) ↔ y = x := by
      constructor
      · intro h
        have h1 : y % 32 = x % 32 := by
          rw [show (31 : Nat) = 2 ^ 5 - 1 from rfl, Nat.and_two_pow_sub_one_eq_mod, Nat.and_two_pow_sub_one_eq_mod] at h
          exact h
        rw [Nat.shiftRight_eq_div_pow, Nat.shiftRight_eq_div_pow] at hw
        omega
      · intro h; rw [h]
    by_cases h : y = x
    · simp [h]
    · simp [h, mt e.mp h]
  · rw [pk_un hw]
    have h : ¬ y = x := fun e => hw (by rw [e])
    simp [h]
theorem sb_0 (y : Nat) : sb (fun _ => 0) y = false := b_0 _
-- the search, in numbers alone
def Mk (k : Nat) : Nat := 2 ^ 2 ^ k - 1
def inR (i : Nat) : Nat → Nat
  | 0 => 0
  | v + 1 => inR i v ||| (((v >>> i) &&& 1) <<< v)
def tabs (k x c : Nat) : Nat := if c < k then inR c (2 ^ k) else (x >>> ((c - k) * 2 ^ k)) &&& Mk k
def nei (k x a b : Nat) : Nat := ((tabs k x a ||| tabs k x b) ^^^ 4294967295) &&& Mk k
def nxt (k x a b c : Nat) : Nat := (x &&& ((Mk k <<< ((c - k) * 2 ^ k)) ^^^ 4294967295)) ||| (nei k x a b <<< ((c - k) * 2 ^ k))
/-- how many states, the states, where each came from, by which act -/
abbrev Bs : Type := Nat × (Nat → Nat) × (Nat → Nat) × (Nat → Nat)
def un (f : Nat → Nat) (i x : Nat) : Nat → Nat := fun j => if j = i then x else f j
theorem un_s {f : Nat → Nat} {i x : Nat} : un f i x i = x := if_pos rfl
theorem un_n {f : Nat → Nat} {i j x : Nat} (h : j ≠ i) : un f i x j = f j := if_neg h
def sn : Nat → (Nat → Nat) → Nat → Bool
  | 0, _, _ => false
  | n + 1, S, x => sn n S x || decide (x = S n)
theorem sn_iff {n : Nat} {S : Nat → Nat} {x : Nat} : sn n S x = true ↔ ∃ i, i < n ∧ S i = x := by
  induction n with
  | zero => simp [sn]
  | succ n ih =>
    simp only [sn, Bool.or_eq_true, decide_eq_true_eq, ih]
    constructor
    · rintro (⟨i, h1, h2⟩ | h)
      · exact ⟨i, by omega, h2⟩
      · exact ⟨n, by omega, h.symm⟩
    · rintro ⟨i, h1, h2⟩
      by_cases e : i = n
      · subst e; exact Or.inr h2.symm
      · exact Or.inl ⟨i, by omega, h2⟩
theorem sn_un {n m : Nat} {S : Nat → Nat} {x y : Nat} (h : n ≤ m) : sn n (un S m y) x = sn n S x := by
  induction n with
  | zero => rfl
  | succ n ih => simp only [sn, ih (by omega)]; rw [un_n (by omega)]
def amt (B : Bs) (x f z : Nat) : Bool × Bs :=
  if sn B.1 B.2.1 x = true then (true, B) else if 8000 ≤ B.1 then (false, B) else (true, (B.1 + 1, un B.2.1 B.1 x, un B.2.2.1 B.1 f, un B.2.2.2 B.1 z))
def lpC (k s t a b : Nat) : Nat → Bs → Bool × Bs
  | 0, B => (true, B)
  | n + 1, B => if s - (n + 1) = a ∨ s - (n + 1) = b then lpC k s t a b n B else
    match amt B (nxt k (B.2.1 t) a b (s - (n + 1))) t (64 * a + 8 * b + (s - (n + 1))) with
    | (false, B1) => (false, B1)
    | (true, B1) => lpC k s t a b n B1
def lpB (k s t a : Nat) : Nat → Bs → Bool × Bs
  | 0, B => (true, B)
  | n + 1, B => match lpC k s t a (s - (n + 1)) (s - k) B with
    | (false, B1) => (false, B1)
    | (true, B1) => lpB k s t a n B1
def lpA (k s t : Nat) : Nat → Bs → Bool × Bs
  | 0, B => (true, B)
  | n + 1, B => match lpB k s t (s - (n + 1)) (n + 1) B with
    | (false, B1) => (false, B1)
    | (true, B1) => lpA k s t n B1
def fwc (k s x w : Nat) : Nat → Option Nat
  | 0 => none
  | n + 1 => if tabs k x (s - (n + 1)) = w then some (s - (n + 1)) else fwc k s x w n
def dpt (F : Nat → Nat) : Nat → Nat → Nat
  | 0, _ => 0
  | n + 1, t => if t = 0 then 0 else dpt F n (F t) + 1
def skA (k s w : Nat) : Nat → Nat → Bs → Int32
  | 0, _, _ => -1
  | n + 1, t, B => if t < B.1 then
      match fwc k s (B.2.1 t) w s with
      | some _ => nI (dpt B.2.2.1 t t)
      | none => match lpA k s t s B with
        | (false, _) => -5
        | (true, B1) => skA k s w n (t + 1) B1
    else -1
def B0 : Bs := (1, fun _ => 0, fun _ => 0, fun _ => 0)
