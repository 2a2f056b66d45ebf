/-! The layer: a goal GG that hides heap, frame and locals array; one rule an instruction. -/
def gtbl : List Cond := lw_tbl.filter goodWord
theorem gt_of {w : Cond} (h : w ∈ lw_tbl ∧ goodWord w = true) : w ∈ gtbl := List.mem_filter.mpr h
abbrev Mth : Type := MethodName × ByteArray × Nat × Option FieldType
abbrev gws (M : Mth) : List Cond := Cond.code M.1 M.2.1 M.2.2.1 M.2.2.2 :: gtbl
theorem gws_in {M : Mth} (h : Cond.code M.1 M.2.1 M.2.2.1 M.2.2.2 ∈ gtbl) : GoodIn gtbl (gws M) := by
  intro w hw
  have hg : w ∈ gtbl := by
    rcases List.mem_cons.mp hw with h2 | h2
    · rw [h2]; exact h
    · exact h2
  exact ⟨hg, good_of_word (List.mem_filter.mp hg).2⟩
def isNest : Cond → Bool
  | .fieldLinkNest .. => true
  | .methodLinkNest .. => true
  | _ => false
def NW (U : State) : Prop := ∀ w ∈ lw_tbl, isNest w = true → va_Nw w U
theorem NW.warm {s U : State} (hW : s.WarmedH U.vm) (h : NW s) : NW U := by
  intro w hw hn
  have h0 := h w hw hn
  cases w with
  | fieldLinkNest => exact va_Nw.warmF hW h0
  | methodLinkNest => exact va_Nw.warmM hW h0
  | _ => exact absurd hn (by simp [isNest])
theorem NW.same {s U : State} (hv : s.vm = U.vm) (h : NW s) : NW U := by
  intro w hw hn
  have h0 := h w hw hn
  cases w with
  | fieldLinkNest => exact va_Nw.same rfl hv h0
  | methodLinkNest => exact va_Nw.same rfl hv h0
  | _ => exact absurd hn (by simp [isNest])
abbrev En : Type := Launch × va_G × ClassId × ClassId
abbrev Fx : Type := Program × Env × Room × State × MethodId × Array Value × List Frame × Method × Code × (Nat → Prop) × (State → Prop)
abbrev tyE (E : En) : List (ClassId × FieldType) := [(E.2.2.1, .int), (E.2.2.2, .long)]
def Cx (E : En) (X : Fx) (cc : ByteArray) (nL : Nat) (own : String) (ret : Option FieldType) (fr lo rc rs : Nat) : Prop :=
  match X with
  | (p, _, R, s, m, args, _, meth, c, A, _) => p.tables.exec = Jvm.exec ∧ c.code = cc ∧ c.maxLocals = nL ∧ s.vm.findClass own = some m.cls ∧ (∀ w ∈ gtbl, w.before args s = true) ∧ meth.locks = false ∧ meth.sig.returnType = ret ∧ va_K E.2.1 vwCl (tyE E) s ∧ NW s ∧ (∀ q, s.heap.size ≤ q → A q) ∧ R = { frames := fr, cells := rc, slots := rs, locals := lo }
def GG (E : En) (X : Fx) (ws : va_W) (k n pc : Nat) (lv : List (Nat × Value)) (st : List Value) : Prop :=
  match X with
  | (p, e, R, s, m, args, below, meth, c, A, Q) => ∀ (H : Heap) (locs : List Loc) (ls : Array Slot), va_P E.2.1 vwCl ws H → va_D A ws → va_S A s.heap H locs → lv_has ls c.maxLocals lv → W p E.1 e R s m args below meth c H locs k n Q (F0 m pc ls st)
def QQ (E : En) (Z : Option Value → va_W → Prop) (A : Nat → Prop) : Array Value → State → Outcome → State → Prop := fun _ st oc t => (∃ (v : Option Value) (w : va_W), oc = .returned v ∧ Z v w ∧ va_P E.2.1 vwCl w t.heap ∧ va_K E.2.1 vwCl (tyE E) t ∧ va_D A w) ∧ va_F A st t
/-- a method's contract: called with 'av' over the world 'ws' it returns, and Z holds of its answer and the world behind it -/
def Ct (E : En) (M : Mth) (d mc ms : Nat) (av : List Value) (ws : va_W) (Z : Option Value → va_W → Prop) : Prop :=
  ∀ sz : Nat, Met E.1 M.1 (gws M) { frames := d, cells := mc, slots := ms, locals := 40 * d } (va_Pc av (fun U => U.heap.size = sz ∧ va_P E.2.1 vwCl ws U.heap ∧ va_K E.2.1 vwCl (tyE E) U ∧ va_D (fun _ => True) ws ∧ NW U)) (QQ E Z (va_A ws sz)) mc ms (va_A ws sz)
def Rt (E : En) (X : Fx) (Z : Option Value → va_W → Prop) (mc ms : Nat) : Prop :=
  match X with
  | (_, _, _, s, _, args, below, _, _, A, Q) => Q = MQ below (QQ E Z A) args s mc ms A
def lvg (i : Nat) : List (Nat × Value) → Option Value
  | [] => none
  | q :: r => bif Nat.beq q.1 i then some q.2 else lvg i r
theorem lvg_mem {i : Nat} {v : Value} : ∀ {lv : List (Nat × Value)}, lvg i lv = some v → (i, v) ∈ lv
  | [], h => by simp [lvg] at h
  | q :: r, h => by
    simp only [lvg] at h
    cases hb : Nat.beq q.1 i with
    | true =>
      rw [hb] at h
      have h2 : q.1 = i := Nat.eq_of_beq_eq_true hb
      have h3 : q.2 = v := Option.some.inj h
      exact List.mem_cons.mpr (Or.inl (by rw [← h2, ← h3]))
    | false =>
      rw [hb] at h
      exact List.mem_cons_of_mem _ (lvg_mem h)
theorem nbq (a b : Nat) : Nat.beq a b = (a == b) := by
  cases h : Nat.beq a b with
  | true => rw [Nat.eq_of_beq_eq_true h]; simp
  | false => have h2 := Nat.ne_of_beq_eq_false h; simp [h2]
def lvi (q : Nat × Value) : List (Nat × Value) → List (Nat × Value)
  | [] => [q]
  | r :: t => bif Nat.ble q.1 r.1 then q :: r :: t else r :: lvi q t
theorem lvi_mem {q x : Nat × Value} : ∀ {t : List (Nat × Value)}, x ∈ lvi q t → x = q ∨ x ∈ t
  | [], h => by simp [lvi] at h; exact Or.inl h
  | r :: t, h => by
    simp only [lvi] at h
    cases hb : Nat.ble q.1 r.1 with
    | true =>
      rw [hb] at h
      exact List.mem_cons.mp h
    | false =>
      rw [hb] at h
      rcases List.mem_cons.mp h with h2 | h2
      · exact Or.inr (List.mem_cons.mpr (Or.inl h2))
      · rcases lvi_mem h2 with h3 | h3
        · exact Or.inl h3
        · exact Or.inr (List.mem_cons_of_mem _ h3)
/-- the locals' list behind a store of one word: what stood at i goes -/
def lvd1 (i : Nat) : List (Nat × Value) → List (Nat × Value)
  | [] => []
  | q :: r => bif (Nat.beq q.1 i || (Nat.beq (q.1 + 1) i && Nat.beq q.2.category 2)) then lvd1 i r else q :: lvd1 i r
def lvd2 (i : Nat) : List (Nat × Value) → List (Nat × Value)
  | [] => []
  | q :: r => bif (Nat.beq q.1 i || (Nat.beq q.1 (i + 1) || (Nat.beq (q.1 + 1) i && Nat.beq q.2.category 2))) then lvd2 i r else q :: lvd2 i r
theorem lvd1_eq (i : Nat) : ∀ lv : List (Nat × Value), lvd1 i lv = lv.filter (fun q => !(q.1 == i) && !(q.1 + 1 == i && q.2.category == 2))
  | [] => rfl
  | q :: r => by
    simp only [lvd1, List.filter_cons, lvd1_eq i r]
    simp only [nbq]
    cases (q.1 == i) <;> cases (q.1 + 1 == i) <;> cases (q.2.category == 2) <;> rfl
theorem lvd2_eq (i : Nat) : ∀ lv : List (Nat × Value), lvd2 i lv = lv.filter (fun q => !(q.1 == i) && (!(q.1 == i + 1) && !(q.1 + 1 == i && q.2.category == 2)))
  | [] => rfl
  | q :: r => by
    simp only [lvd2, List.filter_cons, lvd2_eq i r]
    simp only [nbq]
    cases (q.1 == i) <;> cases (q.1 == i + 1) <;> cases (q.1 + 1 == i) <;> cases (q.2.category == 2) <;> rfl
abbrev lvs1 (i : Nat) (v : Value) (lv : List (Nat × Value)) : List (Nat × Value) := lvi (i, v) (lvd1 i lv)
abbrev lvs2 (i : Nat) (v : Value) (lv : List (Nat × Value)) : List (Nat × Value) := lvi (i, v) (lvd2 i lv)
theorem lvs1_has {ls : Array Slot} {nL i : Nat} {v : Value} {lv : List (Nat × Value)} (h : lv_has ls nL ((i, v) :: lv.filter (fun q => !(q.1 == i) && !(q.1 + 1 == i && q.2.category == 2)))) : lv_has ls nL (lvs1 i v lv) := by
  refine ⟨h.1, h.2.1, fun q hq => h.2.2 q ?_⟩
  rcases lvi_mem hq with h1 | h1
  · exact List.mem_cons.mpr (Or.inl h1)
  · exact List.mem_cons_of_mem _ (by rw [← lvd1_eq]; exact h1)
theorem lvs2_has {ls : Array Slot} {nL i : Nat} {v : Value} {lv : List (Nat × Value)} (h : lv_has ls nL ((i, v) :: lv.filter (fun q => !(q.1 == i) && (!(q.1 == i + 1) && !(q.1 + 1 == i && q.2.category == 2))))) : lv_has ls nL (lvs2 i v lv) := by
  refine ⟨h.1, h.2.1, fun q hq => h.2.2 q ?_⟩
  rcases lvi_mem hq with h1 | h1
  · exact List.mem_cons.mpr (Or.inl h1)
  · exact List.mem_cons_of_mem _ (by rw [← lvd2_eq]; exact h1)
theorem lvg_has {ls : Array Slot} {nL i : Nat} {v : Value} {lv : List (Nat × Value)} (h : lv_has ls nL lv) (hg : lvg i lv = some v) : ls[i]? = some (.val v) := h.2.2 (i, v) (lvg_mem hg)
section MG
variable {E : En} {X : Fx} {cc : ByteArray} {nL : Nat} {own : String} {ret : Option FieldType} {fr lo rc rs : Nat} {ws : va_W} {k n pc : Nat} {lv : List (Nat × Value)} {st rest : List Value}
theorem mg_iconst (C : Cx E X cc nL own ret fr lo rc rs) {i : Int} {v : Int32}  (hdg : decode cc pc = .ok (.iconst i, 1)) (hv : Int32.ofInt i = v) (kk : GG E X ws k n (pc + 1) lv (.int v :: rest)) : GG E X ws k n pc lv (rest) := by
  obtain ⟨p, e, R, s, m, args, below, meth, c, A, Q⟩ := X
  obtain ⟨hx, hb, hml, hown, hts, hlk, hrt, hK, hnw, hA, hR⟩ := C
  intro H locs ls hP hD hS hl
  exact lv_iconst hx hb hdg hv (kk H locs ls hP hD hS hl)
theorem mg_bipush (C : Cx E X cc nL own ret fr lo rc rs) {i : Int} {v : Int32}  (hdg : decode cc pc = .ok (.bipush i, 2)) (hv : (Int8.ofInt i).toInt32 = v) (kk : GG E X ws k n (pc + 2) lv (.int v :: rest)) : GG E X ws k n pc lv (rest) := by
  obtain ⟨p, e, R, s, m, args, below, meth, c, A, Q⟩ := X
  obtain ⟨hx, hb, hml, hown, hts, hlk, hrt, hK, hnw, hA, hR⟩ := C
  intro H locs ls hP hD hS hl
  exact lv_bipush hx hb hdg hv (kk H locs ls hP hD hS hl)
theorem mg_sipush (C : Cx E X cc nL own ret fr lo rc rs) {i : Int} {v : Int32}  (hdg : decode cc pc = .ok (.sipush i, 3)) (hv : (Int16.ofInt i).toInt32 = v) (kk : GG E X ws k n (pc + 3) lv (.int v :: rest)) : GG E X ws k n pc lv (rest) := by
  obtain ⟨p, e, R, s, m, args, below, meth, c, A, Q⟩ := X
  obtain ⟨hx, hb, hml, hown, hts, hlk, hrt, hK, hnw, hA, hR⟩ := C
  intro H locs ls hP hD hS hl
  exact lv_sipush hx hb hdg hv (kk H locs ls hP hD hS hl)
theorem mg_lconst (C : Cx E X cc nL own ret fr lo rc rs) {i : Fin 2} {v : Int64}  (hdg : decode cc pc = .ok (.lconst i, 1)) (hv : Int64.ofNat (i : Nat) = v) (kk : GG E X ws k n (pc + 1) lv (.long v :: rest)) : GG E X ws k n pc lv (rest) := by
  obtain ⟨p, e, R, s, m, args, below, meth, c, A, Q⟩ := X
  obtain ⟨hx, hb, hml, hown, hts, hlk, hrt, hK, hnw, hA, hR⟩ := C
  intro H locs ls hP hD hS hl
  exact lv_lconst hx hb hdg hv (kk H locs ls hP hD hS hl)
theorem mg_ldc (C : Cx E X cc nL own ret fr lo rc rs) {i : Nat} {v : Int32}  (hdg : decode cc pc = .ok (.ldc i, 2)) (hv : Cond.constant own i v ∈ gtbl) (kk : GG E X ws k n (pc + 2) lv (.int v :: rest)) : GG E X ws k n pc lv (rest) := by
  obtain ⟨p, e, R, s, m, args, below, meth, c, A, Q⟩ := X
  obtain ⟨hx, hb, hml, hown, hts, hlk, hrt, hK, hnw, hA, hR⟩ := C
  intro H locs ls hP hD hS hl
  exact lv_ldc hx hb hown (hts _ hv) hdg (kk H locs ls hP hD hS hl)
theorem mg_ldcw (C : Cx E X cc nL own ret fr lo rc rs) {i : Nat} {v : Int32}  (hdg : decode cc pc = .ok (.ldc_w i, 3)) (hv : Cond.constant own i v ∈ gtbl) (kk : GG E X ws k n (pc + 3) lv (.int v :: rest)) : GG E X ws k n pc lv (rest) := by
  obtain ⟨p, e, R, s, m, args, below, meth, c, A, Q⟩ := X
  obtain ⟨hx, hb, hml, hown, hts, hlk, hrt, hK, hnw, hA, hR⟩ := C
  intro H locs ls hP hD hS hl
  exact lv_ldcw hx hb hown (hts _ hv) hdg (kk H locs ls hP hD hS hl)
theorem mg_ldc2 (C : Cx E X cc nL own ret fr lo rc rs) {i : Nat} {v : Int64}  (hdg : decode cc pc = .ok (.ldc2_w i, 3)) (hv : Cond.constantLong own i v ∈ gtbl) (kk : GG E X ws k n (pc + 3) lv (.long v :: rest)) : GG E X ws k n pc lv (rest) := by
  obtain ⟨p, e, R, s, m, args, below, meth, c, A, Q⟩ := X
  obtain ⟨hx, hb, hml, hown, hts, hlk, hrt, hK, hnw, hA, hR⟩ := C
  intro H locs ls hP hD hS hl
  exact lv_ldc2 hx hb hown (hts _ hv) hdg (kk H locs ls hP hD hS hl)
theorem mg_iload_n (C : Cx E X cc nL own ret fr lo rc rs) {i : Fin 4} {x : Int32}  (hdg : decode cc pc = .ok (.iload_n i, 1)) (hg : lvg (i : Nat) lv = some (.int x)) (kk : GG E X ws k n (pc + 1) lv (.int x :: rest)) : GG E X ws k n pc lv (rest) := by
  obtain ⟨p, e, R, s, m, args, below, meth, c, A, Q⟩ := X
  obtain ⟨hx, hb, hml, hown, hts, hlk, hrt, hK, hnw, hA, hR⟩ := C
  intro H locs ls hP hD hS hl
  exact lv_iload_n hx hb hdg rfl (lvg_has hl hg) (kk H locs ls hP hD hS hl)
theorem mg_iload (C : Cx E X cc nL own ret fr lo rc rs) {i : Nat} {x : Int32}  (hdg : decode cc pc = .ok (.iload i, 2)) (hg : lvg i lv = some (.int x)) (kk : GG E X ws k n (pc + 2) lv (.int x :: rest)) : GG E X ws k n pc lv (rest) := by
  obtain ⟨p, e, R, s, m, args, below, meth, c, A, Q⟩ := X
  obtain ⟨hx, hb, hml, hown, hts, hlk, hrt, hK, hnw, hA, hR⟩ := C
  intro H locs ls hP hD hS hl
  exact lv_iload hx hb hdg (lvg_has hl hg) (kk H locs ls hP hD hS hl)
theorem mg_lload_n (C : Cx E X cc nL own ret fr lo rc rs) {i : Fin 4} {x : Int64}  (hdg : decode cc pc = .ok (.lload_n i, 1)) (hg : lvg (i : Nat) lv = some (.long x)) (kk : GG E X ws k n (pc + 1) lv (.long x :: rest)) : GG E X ws k n pc lv (rest) := by
  obtain ⟨p, e, R, s, m, args, below, meth, c, A, Q⟩ := X
  obtain ⟨hx, hb, hml, hown, hts, hlk, hrt, hK, hnw, hA, hR⟩ := C
  intro H locs ls hP hD hS hl
  exact lv_lload_n hx hb hdg rfl (lvg_has hl hg) (kk H locs ls hP hD hS hl)
theorem mg_lload (C : Cx E X cc nL own ret fr lo rc rs) {i : Nat} {x : Int64}  (hdg : decode cc pc = .ok (.lload i, 2)) (hg : lvg i lv = some (.long x)) (kk : GG E X ws k n (pc + 2) lv (.long x :: rest)) : GG E X ws k n pc lv (rest) := by
  obtain ⟨p, e, R, s, m, args, below, meth, c, A, Q⟩ := X
  obtain ⟨hx, hb, hml, hown, hts, hlk, hrt, hK, hnw, hA, hR⟩ := C
  intro H locs ls hP hD hS hl
  exact lv_lload hx hb hdg (lvg_has hl hg) (kk H locs ls hP hD hS hl)
theorem mg_aload_n (C : Cx E X cc nL own ret fr lo rc rs) {i : Fin 4} {x : Nat}  (hdg : decode cc pc = .ok (.aload_n i, 1)) (hg : lvg (i : Nat) lv = some (.ref x)) (kk : GG E X ws k n (pc + 1) lv (.ref x :: rest)) : GG E X ws k n pc lv (rest) := by
  obtain ⟨p, e, R, s, m, args, below, meth, c, A, Q⟩ := X
  obtain ⟨hx, hb, hml, hown, hts, hlk, hrt, hK, hnw, hA, hR⟩ := C
  intro H locs ls hP hD hS hl
  exact lv_aload_n hx hb hdg rfl (lvg_has hl hg) (kk H locs ls hP hD hS hl)
theorem mg_aload (C : Cx E X cc nL own ret fr lo rc rs) {i : Nat} {x : Nat}  (hdg : decode cc pc = .ok (.aload i, 2)) (hg : lvg i lv = some (.ref x)) (kk : GG E X ws k n (pc + 2) lv (.ref x :: rest)) : GG E X ws k n pc lv (rest) := by
  obtain ⟨p, e, R, s, m, args, below, meth, c, A, Q⟩ := X
  obtain ⟨hx, hb, hml, hown, hts, hlk, hrt, hK, hnw, hA, hR⟩ := C
  intro H locs ls hP hD hS hl
  exact lv_aload hx hb hdg (lvg_has hl hg) (kk H locs ls hP hD hS hl)
theorem mg_istore_n (C : Cx E X cc nL own ret fr lo rc rs) {i : Fin 4} {x : Int32} (hdg : decode cc pc = .ok (.istore_n i, 1)) (hn : Nat.blt ((i : Nat)) nL = true) (kk : GG E X ws k n (pc + 1) (lvs1 (i : Nat) (.int x) lv) rest) : GG E X ws k n pc lv (.int x :: rest) := by
  obtain ⟨p, e, R, s, m, args, below, meth, c, A, Q⟩ := X
  obtain ⟨hx, hb, hml, hown, hts, hlk, hrt, hK, hnw, hA, hR⟩ := C
  intro H locs ls hP hD hS hl
  have hn2 : (i : Nat) < c.maxLocals := by
    rw [hml]; exact Nat.le_of_ble_eq_true hn
  exact lv_istore_n hx hb hdg rfl hl hn2 rfl (fun ls' h' => kk H locs ls' hP hD hS (lvs1_has h'))
theorem mg_istore (C : Cx E X cc nL own ret fr lo rc rs) {i : Nat} {x : Int32} (hdg : decode cc pc = .ok (.istore i, 2)) (hn : Nat.blt (i) nL = true) (kk : GG E X ws k n (pc + 2) (lvs1 i (.int x) lv) rest) : GG E X ws k n pc lv (.int x :: rest) := by
  obtain ⟨p, e, R, s, m, args, below, meth, c, A, Q⟩ := X
  obtain ⟨hx, hb, hml, hown, hts, hlk, hrt, hK, hnw, hA, hR⟩ := C
  intro H locs ls hP hD hS hl
  have hn2 : i < c.maxLocals := by
    rw [hml]; exact Nat.le_of_ble_eq_true hn
  exact lv_istore hx hb hdg hl hn2 rfl (fun ls' h' => kk H locs ls' hP hD hS (lvs1_has h'))
theorem mg_lstore_n (C : Cx E X cc nL own ret fr lo rc rs) {i : Fin 4} {x : Int64} (hdg : decode cc pc = .ok (.lstore_n i, 1)) (hn : Nat.blt ((i : Nat) + 1) nL = true) (kk : GG E X ws k n (pc + 1) (lvs2 (i : Nat) (.long x) lv) rest) : GG E X ws k n pc lv (.long x :: rest) := by
  obtain ⟨p, e, R, s, m, args, below, meth, c, A, Q⟩ := X
  obtain ⟨hx, hb, hml, hown, hts, hlk, hrt, hK, hnw, hA, hR⟩ := C
  intro H locs ls hP hD hS hl
  have hn2 : (i : Nat) + 1 < c.maxLocals := by
    rw [hml]; exact Nat.le_of_ble_eq_true hn
  exact lv_lstore_n hx hb hdg rfl hl hn2 rfl (fun ls' h' => kk H locs ls' hP hD hS (lvs2_has h'))
theorem mg_lstore (C : Cx E X cc nL own ret fr lo rc rs) {i : Nat} {x : Int64} (hdg : decode cc pc = .ok (.lstore i, 2)) (hn : Nat.blt (i + 1) nL = true) (kk : GG E X ws k n (pc + 2) (lvs2 i (.long x) lv) rest) : GG E X ws k n pc lv (.long x :: rest) := by
  obtain ⟨p, e, R, s, m, args, below, meth, c, A, Q⟩ := X
  obtain ⟨hx, hb, hml, hown, hts, hlk, hrt, hK, hnw, hA, hR⟩ := C
  intro H locs ls hP hD hS hl
  have hn2 : i + 1 < c.maxLocals := by
    rw [hml]; exact Nat.le_of_ble_eq_true hn
  exact lv_lstore hx hb hdg hl hn2 rfl (fun ls' h' => kk H locs ls' hP hD hS (lvs2_has h'))
theorem mg_astore_n (C : Cx E X cc nL own ret fr lo rc rs) {i : Fin 4} {x : Nat} (hdg : decode cc pc = .ok (.astore_n i, 1)) (hn : Nat.blt ((i : Nat)) nL = true) (kk : GG E X ws k n (pc + 1) (lvs1 (i : Nat) (.ref x) lv) rest) : GG E X ws k n pc lv (.ref x :: rest) := by
  obtain ⟨p, e, R, s, m, args, below, meth, c, A, Q⟩ := X
  obtain ⟨hx, hb, hml, hown, hts, hlk, hrt, hK, hnw, hA, hR⟩ := C
  intro H locs ls hP hD hS hl
  have hn2 : (i : Nat) < c.maxLocals := by
    rw [hml]; exact Nat.le_of_ble_eq_true hn
  exact lv_astore_n hx hb hdg rfl hl hn2 rfl (fun ls' h' => kk H locs ls' hP hD hS (lvs1_has h'))
theorem mg_astore (C : Cx E X cc nL own ret fr lo rc rs) {i : Nat} {x : Nat} (hdg : decode cc pc = .ok (.astore i, 2)) (hn : Nat.blt (i) nL = true) (kk : GG E X ws k n (pc + 2) (lvs1 i (.ref x) lv) rest) : GG E X ws k n pc lv (.ref x :: rest) := by
  obtain ⟨p, e, R, s, m, args, below, meth, c, A, Q⟩ := X
  obtain ⟨hx, hb, hml, hown, hts, hlk, hrt, hK, hnw, hA, hR⟩ := C
  intro H locs ls hP hD hS hl
  have hn2 : i < c.maxLocals := by
    rw [hml]; exact Nat.le_of_ble_eq_true hn
  exact lv_astore hx hb hdg hl hn2 rfl (fun ls' h' => kk H locs ls' hP hD hS (lvs1_has h'))
theorem mg_iinc (C : Cx E X cc nL own ret fr lo rc rs) {i : Nat} {j : Int} {x : Int32} (hdg : decode cc pc = .ok (.iinc i j, 3)) (hg : lvg i lv = some (.int x)) (hn : Nat.blt i nL = true) (kk : GG E X ws k n (pc + 3) (lvs1 i (.int (x + Int32.ofInt j)) lv) rest) : GG E X ws k n pc lv rest := by
  obtain ⟨p, e, R, s, m, args, below, meth, c, A, Q⟩ := X
  obtain ⟨hx, hb, hml, hown, hts, hlk, hrt, hK, hnw, hA, hR⟩ := C
  intro H locs ls hP hD hS hl
  have hn2 : i < c.maxLocals := by
    rw [hml]; exact Nat.le_of_ble_eq_true hn
  obtain ⟨j0, hj⟩ := List.getElem?_of_mem (lvg_mem hg)
  exact lv_iinc hx hb hdg hl hj rfl hn2 rfl (fun ls' h' => kk H locs ls' hP hD hS (lvs1_has h'))
theorem mg_iadd (C : Cx E X cc nL own ret fr lo rc rs) {x y : Int32} (hdg : decode cc pc = .ok (.iadd, 1))  (kk : GG E X ws k n (pc + 1) lv (.int (x + y) :: rest)) : GG E X ws k n pc lv (.int y :: .int x :: rest) := by
  obtain ⟨p, e, R, s, m, args, below, meth, c, A, Q⟩ := X
  obtain ⟨hx, hb, hml, hown, hts, hlk, hrt, hK, hnw, hA, hR⟩ := C
  intro H locs ls hP hD hS hl
  exact lv_iadd hx hb hdg (kk H locs ls hP hD hS hl)
theorem mg_isub (C : Cx E X cc nL own ret fr lo rc rs) {x y : Int32} (hdg : decode cc pc = .ok (.isub, 1))  (kk : GG E X ws k n (pc + 1) lv (.int (x - y) :: rest)) : GG E X ws k n pc lv (.int y :: .int x :: rest) := by
  obtain ⟨p, e, R, s, m, args, below, meth, c, A, Q⟩ := X
  obtain ⟨hx, hb, hml, hown, hts, hlk, hrt, hK, hnw, hA, hR⟩ := C
  intro H locs ls hP hD hS hl
  exact lv_isub hx hb hdg (kk H locs ls hP hD hS hl)
theorem mg_imul (C : Cx E X cc nL own ret fr lo rc rs) {x y : Int32} (hdg : decode cc pc = .ok (.imul, 1))  (kk : GG E X ws k n (pc + 1) lv (.int (x * y) :: rest)) : GG E X ws k n pc lv (.int y :: .int x :: rest) := by
  obtain ⟨p, e, R, s, m, args, below, meth, c, A, Q⟩ := X
  obtain ⟨hx, hb, hml, hown, hts, hlk, hrt, hK, hnw, hA, hR⟩ := C
  intro H locs ls hP hD hS hl
  exact lv_imul hx hb hdg (kk H locs ls hP hD hS hl)
theorem mg_iand (C : Cx E X cc nL own ret fr lo rc rs) {x y : Int32} (hdg : decode cc pc = .ok (.iand, 1))  (kk : GG E X ws k n (pc + 1) lv (.int (x &&& y) :: rest)) : GG E X ws k n pc lv (.int y :: .int x :: rest) := by
  obtain ⟨p, e, R, s, m, args, below, meth, c, A, Q⟩ := X
  obtain ⟨hx, hb, hml, hown, hts, hlk, hrt, hK, hnw, hA, hR⟩ := C
  intro H locs ls hP hD hS hl
  exact lv_iand hx hb hdg (kk H locs ls hP hD hS hl)
theorem mg_ior (C : Cx E X cc nL own ret fr lo rc rs) {x y : Int32} (hdg : decode cc pc = .ok (.ior, 1))  (kk : GG E X ws k n (pc + 1) lv (.int (x ||| y) :: rest)) : GG E X ws k n pc lv (.int y :: .int x :: rest) := by
  obtain ⟨p, e, R, s, m, args, below, meth, c, A, Q⟩ := X
  obtain ⟨hx, hb, hml, hown, hts, hlk, hrt, hK, hnw, hA, hR⟩ := C
  intro H locs ls hP hD hS hl
  exact lv_ior hx hb hdg (kk H locs ls hP hD hS hl)
theorem mg_ixor (C : Cx E X cc nL own ret fr lo rc rs) {x y : Int32} (hdg : decode cc pc = .ok (.ixor, 1))  (kk : GG E X ws k n (pc + 1) lv (.int (x ^^^ y) :: rest)) : GG E X ws k n pc lv (.int y :: .int x :: rest) := by
  obtain ⟨p, e, R, s, m, args, below, meth, c, A, Q⟩ := X
  obtain ⟨hx, hb, hml, hown, hts, hlk, hrt, hK, hnw, hA, hR⟩ := C
  intro H locs ls hP hD hS hl
  exact lv_ixor hx hb hdg (kk H locs ls hP hD hS hl)
theorem mg_ishl (C : Cx E X cc nL own ret fr lo rc rs) {x y : Int32} (hdg : decode cc pc = .ok (.ishl, 1))  (kk : GG E X ws k n (pc + 1) lv (.int (x <<< (y &&& 31)) :: rest)) : GG E X ws k n pc lv (.int y :: .int x :: rest) := by
  obtain ⟨p, e, R, s, m, args, below, meth, c, A, Q⟩ := X
  obtain ⟨hx, hb, hml, hown, hts, hlk, hrt, hK, hnw, hA, hR⟩ := C
  intro H locs ls hP hD hS hl
  exact lv_ishl hx hb hdg (kk H locs ls hP hD hS hl)
theorem mg_ishr (C : Cx E X cc nL own ret fr lo rc rs) {x y : Int32} (hdg : decode cc pc = .ok (.ishr, 1))  (kk : GG E X ws k n (pc + 1) lv (.int (x >>> (y &&& 31)) :: rest)) : GG E X ws k n pc lv (.int y :: .int x :: rest) := by
  obtain ⟨p, e, R, s, m, args, below, meth, c, A, Q⟩ := X
  obtain ⟨hx, hb, hml, hown, hts, hlk, hrt, hK, hnw, hA, hR⟩ := C
  intro H locs ls hP hD hS hl
  exact lv_ishr hx hb hdg (kk H locs ls hP hD hS hl)
theorem mg_iushr (C : Cx E X cc nL own ret fr lo rc rs) {x y : Int32} (hdg : decode cc pc = .ok (.iushr, 1))  (kk : GG E X ws k n (pc + 1) lv (.int ((x.toUInt32 >>> (y.toUInt32 &&& Int32.toUInt32 31)).toInt32) :: rest)) : GG E X ws k n pc lv (.int y :: .int x :: rest) := by
  obtain ⟨p, e, R, s, m, args, below, meth, c, A, Q⟩ := X
  obtain ⟨hx, hb, hml, hown, hts, hlk, hrt, hK, hnw, hA, hR⟩ := C
  intro H locs ls hP hD hS hl
  exact lv_iushr hx hb hdg rfl (kk H locs ls hP hD hS hl)
theorem mg_idiv (C : Cx E X cc nL own ret fr lo rc rs) {x y : Int32}  (hdg : decode cc pc = .ok (.idiv, 1)) (hne : ¬ y = 0) (kk : GG E X ws k n (pc + 1) lv (.int (x / y) :: rest)) : GG E X ws k n pc lv (.int y :: .int x :: rest) := by
  obtain ⟨p, e, R, s, m, args, below, meth, c, A, Q⟩ := X
  obtain ⟨hx, hb, hml, hown, hts, hlk, hrt, hK, hnw, hA, hR⟩ := C
  intro H locs ls hP hD hS hl
  exact lv_idiv hx hb hdg hne (kk H locs ls hP hD hS hl)
theorem mg_irem (C : Cx E X cc nL own ret fr lo rc rs) {x y : Int32}  (hdg : decode cc pc = .ok (.irem, 1)) (hne : ¬ y = 0) (kk : GG E X ws k n (pc + 1) lv (.int (x - x / y * y) :: rest)) : GG E X ws k n pc lv (.int y :: .int x :: rest) := by
  obtain ⟨p, e, R, s, m, args, below, meth, c, A, Q⟩ := X
  obtain ⟨hx, hb, hml, hown, hts, hlk, hrt, hK, hnw, hA, hR⟩ := C
  intro H locs ls hP hD hS hl
  exact lv_irem hx hb hdg hne (kk H locs ls hP hD hS hl)
theorem mg_ineg (C : Cx E X cc nL own ret fr lo rc rs) {x : Int32} (hdg : decode cc pc = .ok (.ineg, 1))  (kk : GG E X ws k n (pc + 1) lv (.int (-x) :: rest)) : GG E X ws k n pc lv (.int x :: rest) := by
  obtain ⟨p, e, R, s, m, args, below, meth, c, A, Q⟩ := X
  obtain ⟨hx, hb, hml, hown, hts, hlk, hrt, hK, hnw, hA, hR⟩ := C
  intro H locs ls hP hD hS hl
  exact lv_ineg hx hb hdg (kk H locs ls hP hD hS hl)
theorem mg_ladd (C : Cx E X cc nL own ret fr lo rc rs) {x y : Int64} (hdg : decode cc pc = .ok (.ladd, 1))  (kk : GG E X ws k n (pc + 1) lv (.long (x + y) :: rest)) : GG E X ws k n pc lv (.long y :: .long x :: rest) := by
  obtain ⟨p, e, R, s, m, args, below, meth, c, A, Q⟩ := X
  obtain ⟨hx, hb, hml, hown, hts, hlk, hrt, hK, hnw, hA, hR⟩ := C
  intro H locs ls hP hD hS hl
  exact lv_ladd hx hb hdg (kk H locs ls hP hD hS hl)
theorem mg_lsub (C : Cx E X cc nL own ret fr lo rc rs) {x y : Int64} (hdg : decode cc pc = .ok (.lsub, 1))  (kk : GG E X ws k n (pc + 1) lv (.long (x - y) :: rest)) : GG E X ws k n pc lv (.long y :: .long x :: rest) := by
  obtain ⟨p, e, R, s, m, args, below, meth, c, A, Q⟩ := X
  obtain ⟨hx, hb, hml, hown, hts, hlk, hrt, hK, hnw, hA, hR⟩ := C
  intro H locs ls hP hD hS hl
  exact lv_lsub hx hb hdg (kk H locs ls hP hD hS hl)
theorem mg_lmul (C : Cx E X cc nL own ret fr lo rc rs) {x y : Int64} (hdg : decode cc pc = .ok (.lmul, 1))  (kk : GG E X ws k n (pc + 1) lv (.long (x * y) :: rest)) : GG E X ws k n pc lv (.long y :: .long x :: rest) := by
  obtain ⟨p, e, R, s, m, args, below, meth, c, A, Q⟩ := X
  obtain ⟨hx, hb, hml, hown, hts, hlk, hrt, hK, hnw, hA, hR⟩ := C
  intro H locs ls hP hD hS hl
  exact lv_lmul hx hb hdg (kk H locs ls hP hD hS hl)
theorem mg_land (C : Cx E X cc nL own ret fr lo rc rs) {x y : Int64} (hdg : decode cc pc = .ok (.land, 1))  (kk : GG E X ws k n (pc + 1) lv (.long (x &&& y) :: rest)) : GG E X ws k n pc lv (.long y :: .long x :: rest) := by
  obtain ⟨p, e, R, s, m, args, below, meth, c, A, Q⟩ := X
  obtain ⟨hx, hb, hml, hown, hts, hlk, hrt, hK, hnw, hA, hR⟩ := C
  intro H locs ls hP hD hS hl
  exact lv_land hx hb hdg (kk H locs ls hP hD hS hl)
theorem mg_lor (C : Cx E X cc nL own ret fr lo rc rs) {x y : Int64} (hdg : decode cc pc = .ok (.lor, 1))  (kk : GG E X ws k n (pc + 1) lv (.long (x ||| y) :: rest)) : GG E X ws k n pc lv (.long y :: .long x :: rest) := by
  obtain ⟨p, e, R, s, m, args, below, meth, c, A, Q⟩ := X
  obtain ⟨hx, hb, hml, hown, hts, hlk, hrt, hK, hnw, hA, hR⟩ := C
  intro H locs ls hP hD hS hl
  exact lv_lor hx hb hdg (kk H locs ls hP hD hS hl)
theorem mg_lshl (C : Cx E X cc nL own ret fr lo rc rs) {x : Int64} {y : Int32} (hdg : decode cc pc = .ok (.lshl, 1))  (kk : GG E X ws k n (pc + 1) lv (.long (x <<< (y.toInt64 &&& 63)) :: rest)) : GG E X ws k n pc lv (.int y :: .long x :: rest) := by
  obtain ⟨p, e, R, s, m, args, below, meth, c, A, Q⟩ := X
  obtain ⟨hx, hb, hml, hown, hts, hlk, hrt, hK, hnw, hA, hR⟩ := C
  intro H locs ls hP hD hS hl
  exact lv_lshl hx hb hdg rfl (kk H locs ls hP hD hS hl)
theorem mg_lshr (C : Cx E X cc nL own ret fr lo rc rs) {x : Int64} {y : Int32} (hdg : decode cc pc = .ok (.lshr, 1))  (kk : GG E X ws k n (pc + 1) lv (.long (x >>> (y.toInt64 &&& 63)) :: rest)) : GG E X ws k n pc lv (.int y :: .long x :: rest) := by
  obtain ⟨p, e, R, s, m, args, below, meth, c, A, Q⟩ := X
  obtain ⟨hx, hb, hml, hown, hts, hlk, hrt, hK, hnw, hA, hR⟩ := C
  intro H locs ls hP hD hS hl
  exact lv_lshr hx hb hdg rfl (kk H locs ls hP hD hS hl)
theorem mg_i2l (C : Cx E X cc nL own ret fr lo rc rs) {x : Int32} (hdg : decode cc pc = .ok (.i2l, 1))  (kk : GG E X ws k n (pc + 1) lv (.long x.toInt64 :: rest)) : GG E X ws k n pc lv (.int x :: rest) := by
  obtain ⟨p, e, R, s, m, args, below, meth, c, A, Q⟩ := X
  obtain ⟨hx, hb, hml, hown, hts, hlk, hrt, hK, hnw, hA, hR⟩ := C
  intro H locs ls hP hD hS hl
  exact lv_i2l hx hb hdg rfl (kk H locs ls hP hD hS hl)
theorem mg_l2i (C : Cx E X cc nL own ret fr lo rc rs) {x : Int64} (hdg : decode cc pc = .ok (.l2i, 1))  (kk : GG E X ws k n (pc + 1) lv (.int x.toInt32 :: rest)) : GG E X ws k n pc lv (.long x :: rest) := by
  obtain ⟨p, e, R, s, m, args, below, meth, c, A, Q⟩ := X
  obtain ⟨hx, hb, hml, hown, hts, hlk, hrt, hK, hnw, hA, hR⟩ := C
  intro H locs ls hP hD hS hl
  exact lv_l2i hx hb hdg rfl (kk H locs ls hP hD hS hl)
theorem mg_lcmp (C : Cx E X cc nL own ret fr lo rc rs) {x y : Int64} (hdg : decode cc pc = .ok (.lcmp, 1))  (kk : GG E X ws k n (pc + 1) lv (.int (lg_cmp x y) :: rest)) : GG E X ws k n pc lv (.long y :: .long x :: rest) := by
  obtain ⟨p, e, R, s, m, args, below, meth, c, A, Q⟩ := X
  obtain ⟨hx, hb, hml, hown, hts, hlk, hrt, hK, hnw, hA, hR⟩ := C
  intro H locs ls hP hD hS hl
  exact W.lcmp hx hb hdg (kk H locs ls hP hD hS hl)
theorem mg_dup (C : Cx E X cc nL own ret fr lo rc rs) {va : Value}  (hdg : decode cc pc = .ok (.dup, 1)) (h1 : va.category = 1) (kk : GG E X ws k n (pc + 1) lv (va :: va :: rest)) : GG E X ws k n pc lv (va :: rest) := by
  obtain ⟨p, e, R, s, m, args, below, meth, c, A, Q⟩ := X
  obtain ⟨hx, hb, hml, hown, hts, hlk, hrt, hK, hnw, hA, hR⟩ := C
  intro H locs ls hP hD hS hl
  exact lv_dup hx hb hdg h1 (kk H locs ls hP hD hS hl)
theorem mg_pop (C : Cx E X cc nL own ret fr lo rc rs) {va : Value}  (hdg : decode cc pc = .ok (.pop, 1)) (h1 : va.category = 1) (kk : GG E X ws k n (pc + 1) lv (rest)) : GG E X ws k n pc lv (va :: rest) := by
  obtain ⟨p, e, R, s, m, args, below, meth, c, A, Q⟩ := X
  obtain ⟨hx, hb, hml, hown, hts, hlk, hrt, hK, hnw, hA, hR⟩ := C
  intro H locs ls hP hD hS hl
  exact lv_pop hx hb hdg h1 (kk H locs ls hP hD hS hl)
theorem mg_pop2 (C : Cx E X cc nL own ret fr lo rc rs) {va : Value}  (hdg : decode cc pc = .ok (.pop2, 1)) (h1 : va.category = 2) (kk : GG E X ws k n (pc + 1) lv (rest)) : GG E X ws k n pc lv (va :: rest) := by
  obtain ⟨p, e, R, s, m, args, below, meth, c, A, Q⟩ := X
  obtain ⟨hx, hb, hml, hown, hts, hlk, hrt, hK, hnw, hA, hR⟩ := C
  intro H locs ls hP hD hS hl
  exact lv_pop2_2 hx hb hdg h1 (kk H locs ls hP hD hS hl)
theorem mg_dup_x1 (C : Cx E X cc nL own ret fr lo rc rs) {va vb : Value}  (hdg : decode cc pc = .ok (.dup_x1, 1)) (h1 : va.category = 1) (h2 : vb.category = 1) (kk : GG E X ws k n (pc + 1) lv (va :: vb :: va :: rest)) : GG E X ws k n pc lv (va :: vb :: rest) := by
  obtain ⟨p, e, R, s, m, args, below, meth, c, A, Q⟩ := X
  obtain ⟨hx, hb, hml, hown, hts, hlk, hrt, hK, hnw, hA, hR⟩ := C
  intro H locs ls hP hD hS hl
  exact lv_dup_x1 hx hb hdg h1 h2 (kk H locs ls hP hD hS hl)
theorem mg_dup2_11 (C : Cx E X cc nL own ret fr lo rc rs) {va vb : Value}  (hdg : decode cc pc = .ok (.dup2, 1)) (h1 : va.category = 1) (h2 : vb.category = 1) (kk : GG E X ws k n (pc + 1) lv (va :: vb :: va :: vb :: rest)) : GG E X ws k n pc lv (va :: vb :: rest) := by
  obtain ⟨p, e, R, s, m, args, below, meth, c, A, Q⟩ := X
  obtain ⟨hx, hb, hml, hown, hts, hlk, hrt, hK, hnw, hA, hR⟩ := C
  intro H locs ls hP hD hS hl
  exact lv_dup2_11 hx hb hdg h1 h2 (kk H locs ls hP hD hS hl)
theorem mg_dup_x2 (C : Cx E X cc nL own ret fr lo rc rs) {va vb vd : Value}  (hdg : decode cc pc = .ok (.dup_x2, 1)) (h1 : va.category = 1) (h2 : vb.category = 1) (h3 : vd.category = 1) (kk : GG E X ws k n (pc + 1) lv (va :: vb :: vd :: va :: rest)) : GG E X ws k n pc lv (va :: vb :: vd :: rest) := by
  obtain ⟨p, e, R, s, m, args, below, meth, c, A, Q⟩ := X
  obtain ⟨hx, hb, hml, hown, hts, hlk, hrt, hK, hnw, hA, hR⟩ := C
  intro H locs ls hP hD hS hl
  exact lv_dup_x2 hx hb hdg h1 h2 h3 (kk H locs ls hP hD hS hl)
theorem mg_if_eq (C : Cx E X cc nL own ret fr lo rc rs) {x : Int32} {off : Int} (tgt : Nat) (hdg : decode cc pc = .ok (.ifCond .eq off, 3)) (ht : (pc : Int) + off = (tgt : Int)) (kt : x = 0 → GG E X ws k n tgt lv rest) (kf : ¬ x = 0 → GG E X ws k n (pc + 3) lv rest) : GG E X ws k n pc lv (.int x :: rest) := by
  obtain ⟨p, e, R, s, m, args, below, meth, c, A, Q⟩ := X
  obtain ⟨hx, hb, hml, hown, hts, hlk, hrt, hK, hnw, hA, hR⟩ := C
  intro H locs ls hP hD hS hl
  exact lv_if_eq hx hb hdg ht (fun h => kt h H locs ls hP hD hS hl) (fun h => kf h H locs ls hP hD hS hl)
theorem mg_icmp_eq (C : Cx E X cc nL own ret fr lo rc rs) {x y : Int32} {off : Int} (tgt : Nat) (hdg : decode cc pc = .ok (.if_icmp .eq off, 3)) (ht : (pc : Int) + off = (tgt : Int)) (kt : x = y → GG E X ws k n tgt lv rest) (kf : ¬ x = y → GG E X ws k n (pc + 3) lv rest) : GG E X ws k n pc lv (.int y :: .int x :: rest) := by
  obtain ⟨p, e, R, s, m, args, below, meth, c, A, Q⟩ := X
  obtain ⟨hx, hb, hml, hown, hts, hlk, hrt, hK, hnw, hA, hR⟩ := C
  intro H locs ls hP hD hS hl
  exact lv_icmp_eq hx hb hdg ht (fun h => kt h H locs ls hP hD hS hl) (fun h => kf h H locs ls hP hD hS hl)
theorem mg_if_ne (C : Cx E X cc nL own ret fr lo rc rs) {x : Int32} {off : Int} (tgt : Nat) (hdg : decode cc pc = .ok (.ifCond .ne off, 3)) (ht : (pc : Int) + off = (tgt : Int)) (kt : ¬ x = 0 → GG E X ws k n tgt lv rest) (kf : x = 0 → GG E X ws k n (pc + 3) lv rest) : GG E X ws k n pc lv (.int x :: rest) := by
  obtain ⟨p, e, R, s, m, args, below, meth, c, A, Q⟩ := X
  obtain ⟨hx, hb, hml, hown, hts, hlk, hrt, hK, hnw, hA, hR⟩ := C
  intro H locs ls hP hD hS hl
  exact lv_if_ne hx hb hdg ht (fun h => kt h H locs ls hP hD hS hl) (fun h => kf h H locs ls hP hD hS hl)
theorem mg_icmp_ne (C : Cx E X cc nL own ret fr lo rc rs) {x y : Int32} {off : Int} (tgt : Nat) (hdg : decode cc pc = .ok (.if_icmp .ne off, 3)) (ht : (pc : Int) + off = (tgt : Int)) (kt : ¬ x = y → GG E X ws k n tgt lv rest) (kf : x = y → GG E X ws k n (pc + 3) lv rest) : GG E X ws k n pc lv (.int y :: .int x :: rest) := by
  obtain ⟨p, e, R, s, m, args, below, meth, c, A, Q⟩ := X
  obtain ⟨hx, hb, hml, hown, hts, hlk, hrt, hK, hnw, hA, hR⟩ := C
  intro H locs ls hP hD hS hl
  exact lv_icmp_ne hx hb hdg ht (fun h => kt h H locs ls hP hD hS hl) (fun h => kf h H locs ls hP hD hS hl)
theorem mg_if_lt (C : Cx E X cc nL own ret fr lo rc rs) {x : Int32} {off : Int} (tgt : Nat) (hdg : decode cc pc = .ok (.ifCond .lt off, 3)) (ht : (pc : Int) + off = (tgt : Int)) (kt : x < 0 → GG E X ws k n tgt lv rest) (kf : ¬ x < 0 → GG E X ws k n (pc + 3) lv rest) : GG E X ws k n pc lv (.int x :: rest) := by
  obtain ⟨p, e, R, s, m, args, below, meth, c, A, Q⟩ := X
  obtain ⟨hx, hb, hml, hown, hts, hlk, hrt, hK, hnw, hA, hR⟩ := C
  intro H locs ls hP hD hS hl
  exact lv_if_lt hx hb hdg ht (fun h => kt h H locs ls hP hD hS hl) (fun h => kf h H locs ls hP hD hS hl)
theorem mg_icmp_lt (C : Cx E X cc nL own ret fr lo rc rs) {x y : Int32} {off : Int} (tgt : Nat) (hdg : decode cc pc = .ok (.if_icmp .lt off, 3)) (ht : (pc : Int) + off = (tgt : Int)) (kt : x < y → GG E X ws k n tgt lv rest) (kf : ¬ x < y → GG E X ws k n (pc + 3) lv rest) : GG E X ws k n pc lv (.int y :: .int x :: rest) := by
  obtain ⟨p, e, R, s, m, args, below, meth, c, A, Q⟩ := X
  obtain ⟨hx, hb, hml, hown, hts, hlk, hrt, hK, hnw, hA, hR⟩ := C
  intro H locs ls hP hD hS hl
  exact lv_icmp_lt hx hb hdg ht (fun h => kt h H locs ls hP hD hS hl) (fun h => kf h H locs ls hP hD hS hl)
theorem mg_if_ge (C : Cx E X cc nL own ret fr lo rc rs) {x : Int32} {off : Int} (tgt : Nat) (hdg : decode cc pc = .ok (.ifCond .ge off, 3)) (ht : (pc : Int) + off = (tgt : Int)) (kt : 0 ≤ x → GG E X ws k n tgt lv rest) (kf : ¬ 0 ≤ x → GG E X ws k n (pc + 3) lv rest) : GG E X ws k n pc lv (.int x :: rest) := by
  obtain ⟨p, e, R, s, m, args, below, meth, c, A, Q⟩ := X
  obtain ⟨hx, hb, hml, hown, hts, hlk, hrt, hK, hnw, hA, hR⟩ := C
  intro H locs ls hP hD hS hl
  exact lv_if_ge hx hb hdg ht (fun h => kt h H locs ls hP hD hS hl) (fun h => kf h H locs ls hP hD hS hl)
theorem mg_icmp_ge (C : Cx E X cc nL own ret fr lo rc rs) {x y : Int32} {off : Int} (tgt : Nat) (hdg : decode cc pc = .ok (.if_icmp .ge off, 3)) (ht : (pc : Int) + off = (tgt : Int)) (kt : y ≤ x → GG E X ws k n tgt lv rest) (kf : ¬ y ≤ x → GG E X ws k n (pc + 3) lv rest) : GG E X ws k n pc lv (.int y :: .int x :: rest) := by
  obtain ⟨p, e, R, s, m, args, below, meth, c, A, Q⟩ := X
  obtain ⟨hx, hb, hml, hown, hts, hlk, hrt, hK, hnw, hA, hR⟩ := C
  intro H locs ls hP hD hS hl
  exact lv_icmp_ge hx hb hdg ht (fun h => kt h H locs ls hP hD hS hl) (fun h => kf h H locs ls hP hD hS hl)
theorem mg_if_gt (C : Cx E X cc nL own ret fr lo rc rs) {x : Int32} {off : Int} (tgt : Nat) (hdg : decode cc pc = .ok (.ifCond .gt off, 3)) (ht : (pc : Int) + off = (tgt : Int)) (kt : 0 < x → GG E X ws k n tgt lv rest) (kf : ¬ 0 < x → GG E X ws k n (pc + 3) lv rest) : GG E X ws k n pc lv (.int x :: rest) := by
  obtain ⟨p, e, R, s, m, args, below, meth, c, A, Q⟩ := X
  obtain ⟨hx, hb, hml, hown, hts, hlk, hrt, hK, hnw, hA, hR⟩ := C
  intro H locs ls hP hD hS hl
  exact lv_if_gt hx hb hdg ht (fun h => kt h H locs ls hP hD hS hl) (fun h => kf h H locs ls hP hD hS hl)
theorem mg_icmp_gt (C : Cx E X cc nL own ret fr lo rc rs) {x y : Int32} {off : Int} (tgt : Nat) (hdg : decode cc pc = .ok (.if_icmp .gt off, 3)) (ht : (pc : Int) + off = (tgt : Int)) (kt : y < x → GG E X ws k n tgt lv rest) (kf : ¬ y < x → GG E X ws k n (pc + 3) lv rest) : GG E X ws k n pc lv (.int y :: .int x :: rest) := by
  obtain ⟨p, e, R, s, m, args, below, meth, c, A, Q⟩ := X
  obtain ⟨hx, hb, hml, hown, hts, hlk, hrt, hK, hnw, hA, hR⟩ := C
  intro H locs ls hP hD hS hl
  exact lv_icmp_gt hx hb hdg ht (fun h => kt h H locs ls hP hD hS hl) (fun h => kf h H locs ls hP hD hS hl)
theorem mg_if_le (C : Cx E X cc nL own ret fr lo rc rs) {x : Int32} {off : Int} (tgt : Nat) (hdg : decode cc pc = .ok (.ifCond .le off, 3)) (ht : (pc : Int) + off = (tgt : Int)) (kt : x ≤ 0 → GG E X ws k n tgt lv rest) (kf : ¬ x ≤ 0 → GG E X ws k n (pc + 3) lv rest) : GG E X ws k n pc lv (.int x :: rest) := by
  obtain ⟨p, e, R, s, m, args, below, meth, c, A, Q⟩ := X
  obtain ⟨hx, hb, hml, hown, hts, hlk, hrt, hK, hnw, hA, hR⟩ := C
  intro H locs ls hP hD hS hl
  exact lv_if_le hx hb hdg ht (fun h => kt h H locs ls hP hD hS hl) (fun h => kf h H locs ls hP hD hS hl)
theorem mg_icmp_le (C : Cx E X cc nL own ret fr lo rc rs) {x y : Int32} {off : Int} (tgt : Nat) (hdg : decode cc pc = .ok (.if_icmp .le off, 3)) (ht : (pc : Int) + off = (tgt : Int)) (kt : x ≤ y → GG E X ws k n tgt lv rest) (kf : ¬ x ≤ y → GG E X ws k n (pc + 3) lv rest) : GG E X ws k n pc lv (.int y :: .int x :: rest) := by
  obtain ⟨p, e, R, s, m, args, below, meth, c, A, Q⟩ := X
  obtain ⟨hx, hb, hml, hown, hts, hlk, hrt, hK, hnw, hA, hR⟩ := C
  intro H locs ls hP hD hS hl
  exact lv_icmp_le hx hb hdg ht (fun h => kt h H locs ls hP hD hS hl) (fun h => kf h H locs ls hP hD hS hl)
theorem mg_goto (C : Cx E X cc nL own ret fr lo rc rs) {off : Int} (tgt : Nat) (hdg : decode cc pc = .ok (.goto off, 3)) (ht : (pc : Int) + off = (tgt : Int)) (kk : GG E X ws k n tgt lv rest) : GG E X ws k n pc lv rest := by
  obtain ⟨p, e, R, s, m, args, below, meth, c, A, Q⟩ := X
  obtain ⟨hx, hb, hml, hown, hts, hlk, hrt, hK, hnw, hA, hR⟩ := C
  intro H locs ls hP hD hS hl
  exact lv_goto hx hb hdg ht (kk H locs ls hP hD hS hl)
theorem mg_tabOut (C : Cx E X cc nL own ret fr lo rc rs) {x : Int32} {dflt a b : Int} {offs : Array Int} {len : Nat} (tgt : Nat) (hdg : decode cc pc = .ok (.tableswitch dflt a b offs, len)) (h : x.toInt < a ∨ b < x.toInt) (ht : (pc : Int) + dflt = (tgt : Int)) (kk : GG E X ws k n tgt lv rest) : GG E X ws k n pc lv (.int x :: rest) := by
  obtain ⟨p, e, R, s, m, args, below, meth, c, A, Q⟩ := X
  obtain ⟨hx, hb, hml, hown, hts, hlk, hrt, hK, hnw, hA, hR⟩ := C
  intro H locs ls hP hD hS hl
  exact lv_tableOut hx hb hdg h ht (kk H locs ls hP hD hS hl)
theorem mg_tabIn (C : Cx E X cc nL own ret fr lo rc rs) {x : Int32} {dflt a b off : Int} {offs : Array Int} {len : Nat} (tgt : Nat) (hdg : decode cc pc = .ok (.tableswitch dflt a b offs, len)) (h1 : ¬ x.toInt < a) (h2 : ¬ b < x.toInt) (ho : offs[(x.toInt - a).toNat]? = some off) (ht : (pc : Int) + off = (tgt : Int)) (kk : GG E X ws k n tgt lv rest) : GG E X ws k n pc lv (.int x :: rest) := by
  obtain ⟨p, e, R, s, m, args, below, meth, c, A, Q⟩ := X
  obtain ⟨hx, hb, hml, hown, hts, hlk, hrt, hK, hnw, hA, hR⟩ := C
  intro H locs ls hP hD hS hl
  exact lv_tableIn hx hb hdg h1 h2 ho ht (kk H locs ls hP hD hS hl)
theorem mg_topi {x : Int32} (kk : ∀ y : Int32, y = x → GG E X ws k n pc lv (.int y :: rest)) : GG E X ws k n pc lv (.int x :: rest) := kk x rfl
theorem mg_topl {x : Int64} (kk : ∀ y : Int64, y = x → GG E X ws k n pc lv (.long y :: rest)) : GG E X ws k n pc lv (.long x :: rest) := kk x rfl
theorem mg_v {r : Value} (kk : GG E X ws k n pc lv (r :: rest)) : GG E X ws k n pc lv ((some r).toList ++ rest) := kk
theorem mg_v0 (kk : GG E X ws k n pc lv rest) : GG E X ws k n pc lv ((none : Option Value).toList ++ rest) := kk
theorem mg_as {ws' : va_W} {lv' : List (Nat × Value)} {st' : List Value} (kk : GG E X ws' k n pc lv' st') (h1 : ws = ws') (h2 : lv = lv') (h3 : st = st') : GG E X ws k n pc lv st := by rw [h1, h2, h3]; exact kk
theorem mg_lv {lv' : List (Nat × Value)} (h : ∀ q ∈ lv', q ∈ lv) (kk : GG E X ws k n pc lv' st) : GG E X ws k n pc lv st := by
  obtain ⟨p, e, R, s, m, args, below, meth, c, A, Q⟩ := X
  intro H locs ls hP hD hS hl
  exact kk H locs ls hP hD hS ⟨hl.1, hl.2.1, fun q hq => hl.2.2 q (h q hq)⟩
theorem mg_widen {k' n' : Nat} (h1 : Nat.ble k k' = true) (h2 : Nat.ble n n' = true) (kk : GG E X ws k' n' pc lv st) : GG E X ws k n pc lv st := by
  obtain ⟨p, e, R, s, m, args, below, meth, c, A, Q⟩ := X
  intro H locs ls hP hD hS hl
  exact W.widen (Nat.le_of_ble_eq_true h1) (Nat.le_of_ble_eq_true h2) (kk H locs ls hP hD hS hl)
theorem mg_widen' {k' n' : Nat} (h1 : k ≤ k') (h2 : n ≤ n') (kk : GG E X ws k' n' pc lv st) : GG E X ws k n pc lv st := by
  obtain ⟨p, e, R, s, m, args, below, meth, c, A, Q⟩ := X
  intro H locs ls hP hD hS hl
  exact W.widen h1 h2 (kk H locs ls hP hD hS hl)
/-- another order of the cells, or fewer -/
theorem mg_by {ws' : va_W} (g : Nat → Nat) (hg : ∀ (i : Nat) (q : Nat × va_E), ws'[i]? = some q → ws[g i]? = some q) (hi : ∀ i j : Nat, i < ws'.length → j < ws'.length → g i = g j → i = j) (kk : GG E X ws' k n pc lv st) : GG E X ws k n pc lv st := by
  obtain ⟨p, e, R, s, m, args, below, meth, c, A, Q⟩ := X
  intro H locs ls hP hD hS hl
  exact kk H locs ls (hP.by g hg) (hD.by g hg hi) hS hl
theorem mg_drop2 {x y : Nat × va_E} (kk : GG E X (x :: ws) k n pc lv st) : GG E X (x :: y :: ws) k n pc lv st := by
  refine mg_by (fun i => if i = 0 then 0 else i + 1) ?_ ?_ kk
  · intro i q hq
    cases i with
    | zero => simpa using hq
    | succ i => simpa using hq
  · intro i j _ _ h
    by_cases hi : i = 0 <;> by_cases hj : j = 0 <;> simp [hi, hj] at h ⊢
    · exact h
variable {j : Nat}
theorem mg_get (C : Cx E X cc nL own ret fr lo rc rs) {Cn : String} {T : u_T} {N ci idx : Nat} (hin : ∀ w ∈ u_ws Cn T N, w ∈ gtbl) (hlk2 : Cond.fieldLink own idx (T j).1 (T j).2.1 (T j).2.2.1 ∈ gtbl) (hc : vwCl[ci]? = some (Cn, T, N)) (hj : Nat.blt j N = true) (q0 : Nat) {a : Nat} {fs : List Value} (he : ws[q0]? = some (a, .inr (ci, fs))) {v : Value} (hv : fs[j]? = some v) (hdg : decode cc pc = .ok (.getfield idx, 3)) (kk : GG E X ws k n (pc + 3) lv (v :: rest)) : GG E X ws k n pc lv (.ref a :: rest) := by
  obtain ⟨p, e, R, s, m, args, below, meth, c, A, Q⟩ := X
  obtain ⟨hx, hb, hml, hown, hts, hlk, hrt, hK, hnw, hA, hR⟩ := C
  intro H locs ls hP hD hS hl
  exact va_get hx hb hts hin hown hK hP q0 he hc j (Nat.le_of_ble_eq_true hj) (hts _ hlk2) (fun _ h9 => h9) hv hdg (kk H locs ls hP hD hS hl)
theorem mg_getN (C : Cx E X cc nL own ret fr lo rc rs) {Cn : String} {T : u_T} {N ci idx : Nat} {host : String} (hin : ∀ w ∈ u_ws Cn T N, w ∈ gtbl) (hlk2 : Cond.fieldLinkNest own idx (T j).1 (T j).2.1 (T j).2.2.1 host ∈ lw_tbl) (hc : vwCl[ci]? = some (Cn, T, N)) (hj : Nat.blt j N = true) (q0 : Nat) {a : Nat} {fs : List Value} (he : ws[q0]? = some (a, .inr (ci, fs))) {v : Value} (hv : fs[j]? = some v) (hdg : decode cc pc = .ok (.getfield idx, 3)) (kk : GG E X ws k n (pc + 3) lv (v :: rest)) : GG E X ws k n pc lv (.ref a :: rest) := by
  obtain ⟨p, e, R, s, m, args, below, meth, c, A, Q⟩ := X
  obtain ⟨hx, hb, hml, hown, hts, hlk, hrt, hK, hnw, hA, hR⟩ := C
  intro H locs ls hP hD hS hl
  exact va_getN hx hb hts hin hown hK hP q0 he hc j (Nat.le_of_ble_eq_true hj) (va_Nw.use rfl (hnw _ hlk2 rfl)) (fun _ h9 => h9) hv hdg (kk H locs ls hP hD hS hl)
theorem mg_put (C : Cx E X cc nL own ret fr lo rc rs) {Cn : String} {T : u_T} {N ci idx : Nat} (hin : ∀ w ∈ u_ws Cn T N, w ∈ gtbl) (hlk2 : Cond.fieldLink own idx (T j).1 (T j).2.1 (T j).2.2.1 ∈ gtbl) (hc : vwCl[ci]? = some (Cn, T, N)) (hj : Nat.blt j N = true) (ty0 : Nat → FieldType) (hty : ∀ k, k < N → parseFieldDescriptor (T k).2.2.1 = some (ty0 k)) (hnm : ∀ a, a < N → ∀ b, b < N → a ≠ b → (T a).2.1 ≠ (T b).2.1) (hfin : (T j).2.2.2 = false) (q0 : Nat) {a : Nat} {fs : List Value} (he : ws[q0]? = some (a, .inr (ci, fs))) {v : Value} (hn : narrow (ty0 j) v = v) (hfit : fits (ty0 j) v = true) (hll : Nat.blt j fs.length = true) (hdg : decode cc pc = .ok (.putfield idx, 3)) {ws' : va_W} (hws : ws.set q0 (a, .inr (ci, fs.set j v)) = ws') (kk : GG E X ws' k n (pc + 3) lv rest) : GG E X ws k n pc lv (v :: .ref a :: rest) := by
  obtain ⟨p, e, R, s, m, args, below, meth, c, A, Q⟩ := X
  obtain ⟨hx, hb, hml, hown, hts, hlk, hrt, hK, hnw, hA, hR⟩ := C
  intro H locs ls hP hD hS hl
  subst hws
  exact va_put hx hb hts hin ty0 hty hnm hown hK hP hD hS q0 he hc j (Nat.le_of_ble_eq_true hj) (hts _ hlk2) (fun _ h9 => h9) hfin (hty j (Nat.le_of_ble_eq_true hj)) hn hfit (Nat.le_of_ble_eq_true hll) hdg (fun H1 locs1 hP1 hD1 hS1 => kk H1 locs1 ls hP1 hD1 hS1 hl)
theorem mg_putN (C : Cx E X cc nL own ret fr lo rc rs) {Cn : String} {T : u_T} {N ci idx : Nat} {host : String} (hin : ∀ w ∈ u_ws Cn T N, w ∈ gtbl) (hlk2 : Cond.fieldLinkNest own idx (T j).1 (T j).2.1 (T j).2.2.1 host ∈ lw_tbl) (hc : vwCl[ci]? = some (Cn, T, N)) (hj : Nat.blt j N = true) (ty0 : Nat → FieldType) (hty : ∀ k, k < N → parseFieldDescriptor (T k).2.2.1 = some (ty0 k)) (hnm : ∀ a, a < N → ∀ b, b < N → a ≠ b → (T a).2.1 ≠ (T b).2.1) (hfin : (T j).2.2.2 = false) (q0 : Nat) {a : Nat} {fs : List Value} (he : ws[q0]? = some (a, .inr (ci, fs))) {v : Value} (hn : narrow (ty0 j) v = v) (hfit : fits (ty0 j) v = true) (hll : Nat.blt j fs.length = true) (hdg : decode cc pc = .ok (.putfield idx, 3)) {ws' : va_W} (hws : ws.set q0 (a, .inr (ci, fs.set j v)) = ws') (kk : GG E X ws' k n (pc + 3) lv rest) : GG E X ws k n pc lv (v :: .ref a :: rest) := by
  obtain ⟨p, e, R, s, m, args, below, meth, c, A, Q⟩ := X
  obtain ⟨hx, hb, hml, hown, hts, hlk, hrt, hK, hnw, hA, hR⟩ := C
  intro H locs ls hP hD hS hl
  subst hws
  exact va_putN hx hb hts hin ty0 hty hnm hown hK hP hD hS q0 he hc j (Nat.le_of_ble_eq_true hj) (va_Nw.use rfl (hnw _ hlk2 rfl)) (fun _ h9 => h9) hfin (hty j (Nat.le_of_ble_eq_true hj)) hn hfit (Nat.le_of_ble_eq_true hll) hdg (fun H1 locs1 hP1 hD1 hS1 => kk H1 locs1 ls hP1 hD1 hS1 hl)
theorem mg_putF (C : Cx E X cc nL own ret fr lo rc rs) {Cn : String} {T : u_T} {N ci idx : Nat} (hin : ∀ w ∈ u_ws Cn T N, w ∈ gtbl) (hlk2 : Cond.fieldLink own idx (T j).1 (T j).2.1 (T j).2.2.1 ∈ gtbl) (hc : vwCl[ci]? = some (Cn, T, N)) (hj : Nat.blt j N = true) (ty0 : Nat → FieldType) (hty : ∀ k, k < N → parseFieldDescriptor (T k).2.2.1 = some (ty0 k)) (hnm : ∀ a, a < N → ∀ b, b < N → a ≠ b → (T a).2.1 ≠ (T b).2.1) (hfin : (T j).2.2.2 = true) (hini : X.2.2.2.2.2.2.2.1.name = "<init>") (hdecl : (T j).1 = own) (q0 : Nat) {a : Nat} {fs : List Value} (he : ws[q0]? = some (a, .inr (ci, fs))) {v : Value} (hn : narrow (ty0 j) v = v) (hfit : fits (ty0 j) v = true) (hll : Nat.blt j fs.length = true) (hdg : decode cc pc = .ok (.putfield idx, 3)) {ws' : va_W} (hws : ws.set q0 (a, .inr (ci, fs.set j v)) = ws') (kk : GG E X ws' k n (pc + 3) lv rest) : GG E X ws k n pc lv (v :: .ref a :: rest) := by
  obtain ⟨p, e, R, s, m, args, below, meth, c, A, Q⟩ := X
  obtain ⟨hx, hb, hml, hown, hts, hlk, hrt, hK, hnw, hA, hR⟩ := C
  intro H locs ls hP hD hS hl
  subst hws
  exact va_putF hx hb hts hin ty0 hty hnm hown hK hP hD hS q0 he hc j (Nat.le_of_ble_eq_true hj) (hts _ hlk2) (fun _ h9 => h9) hfin hini hdecl (hty j (Nat.le_of_ble_eq_true hj)) hn hfit (Nat.le_of_ble_eq_true hll) hdg (fun H1 locs1 hP1 hD1 hS1 => kk H1 locs1 ls hP1 hD1 hS1 hl)
theorem mg_iald (C : Cx E X cc nL own ret fr lo rc rs) (q0 : Nat) {a N : Nat} {f : Nat → Int32} (ha : ws[q0]? = some (a, .inl (E.2.2.1, N, .inl f))) {i : Int32} (hin : vp_in i N) (hdg : decode cc pc = .ok (.iaload, 1)) (kk : GG E X ws k n (pc + 1) lv (.int (f i.toNatClampNeg) :: rest)) : GG E X ws k n pc lv (.int i :: .ref a :: rest) := by
  obtain ⟨p, e, R, s, m, args, below, meth, c, A, Q⟩ := X
  obtain ⟨hx, hb, hml, hown, hts, hlk, hrt, hK, hnw, hA, hR⟩ := C
  intro H locs ls hP hD hS hl
  exact va_iald hx hb hK hP q0 0 ha rfl hin hdg (kk H locs ls hP hD hS hl)
theorem mg_lald (C : Cx E X cc nL own ret fr lo rc rs) (q0 : Nat) {a N : Nat} {f : Nat → Int64} (ha : ws[q0]? = some (a, .inl (E.2.2.2, N, .inr (.inl f)))) {i : Int32} (hin : vp_in i N) (hdg : decode cc pc = .ok (.laload, 1)) (kk : GG E X ws k n (pc + 1) lv (.long (f i.toNatClampNeg) :: rest)) : GG E X ws k n pc lv (.int i :: .ref a :: rest) := by
  obtain ⟨p, e, R, s, m, args, below, meth, c, A, Q⟩ := X
  obtain ⟨hx, hb, hml, hown, hts, hlk, hrt, hK, hnw, hA, hR⟩ := C
  intro H locs ls hP hD hS hl
  exact va_lald hx hb hK hP q0 1 ha rfl hin hdg (kk H locs ls hP hD hS hl)
theorem mg_iast (C : Cx E X cc nL own ret fr lo rc rs) (q0 : Nat) {a N : Nat} {f : Nat → Int32} (ha : ws[q0]? = some (a, .inl (E.2.2.1, N, .inl f))) {i : Int32} {x : Int32} (hin : vp_in i N) (hdg : decode cc pc = .ok (.iastore, 1)) {ws' : va_W} (hws : ws.set q0 (a, .inl (E.2.2.1, N, .inl (upd f i.toNatClampNeg x))) = ws') (kk : GG E X ws' k n (pc + 1) lv rest) : GG E X ws k n pc lv (.int x :: .int i :: .ref a :: rest) := by
  obtain ⟨p, e, R, s, m, args, below, meth, c, A, Q⟩ := X
  obtain ⟨hx, hb, hml, hown, hts, hlk, hrt, hK, hnw, hA, hR⟩ := C
  intro H locs ls hP hD hS hl
  subst hws
  exact va_iast hx hb hK hP hD hS q0 0 ha rfl hin hdg (fun H1 locs1 hP1 hD1 hS1 => kk H1 locs1 ls hP1 hD1 hS1 hl)
theorem mg_last (C : Cx E X cc nL own ret fr lo rc rs) (q0 : Nat) {a N : Nat} {f : Nat → Int64} (ha : ws[q0]? = some (a, .inl (E.2.2.2, N, .inr (.inl f)))) {i : Int32} {x : Int64} (hin : vp_in i N) (hdg : decode cc pc = .ok (.lastore, 1)) {ws' : va_W} (hws : ws.set q0 (a, .inl (E.2.2.2, N, .inr (.inl (vp_updL f i.toNatClampNeg x)))) = ws') (kk : GG E X ws' k n (pc + 1) lv rest) : GG E X ws k n pc lv (.long x :: .int i :: .ref a :: rest) := by
  obtain ⟨p, e, R, s, m, args, below, meth, c, A, Q⟩ := X
  obtain ⟨hx, hb, hml, hown, hts, hlk, hrt, hK, hnw, hA, hR⟩ := C
  intro H locs ls hP hD hS hl
  subst hws
  exact va_last hx hb hK hP hD hS q0 1 ha rfl hin hdg (fun H1 locs1 hP1 hD1 hS1 => kk H1 locs1 ls hP1 hD1 hS1 hl)
theorem mg_alen (C : Cx E X cc nL own ret fr lo rc rs) (q0 : Nat) {a : Nat} {x : vp_A} (ha : ws[q0]? = some (a, .inl (E.2.2.1, x))) {v : Int32} (hv : Int32.ofNat x.1 = v) (hdg : decode cc pc = .ok (.arraylength, 1)) (kk : GG E X ws k n (pc + 1) lv (.int v :: rest)) : GG E X ws k n pc lv (.ref a :: rest) := by
  obtain ⟨p, e, R, s, m, args, below, meth, c, A, Q⟩ := X
  obtain ⟨hx, hb, hml, hown, hts, hlk, hrt, hK, hnw, hA, hR⟩ := C
  intro H locs ls hP hD hS hl
  exact va_alen hx hb hK hP q0 0 ha (ty := .int) rfl hv hdg (kk H locs ls hP hD hS hl)
theorem rot_P {D : va_G} {cl : List vw_C} {ws : va_W} {x : Nat × va_E} {H : Heap} (h : va_P D cl (ws ++ [x]) H) : va_P D cl (x :: ws) H := by
  intro i q hq
  cases i with
  | zero => exact h ws.length q (by simpa using hq)
  | succ i =>
    have hq2 : ws[i]? = some q := by simpa using hq
    have hlt : i < ws.length := (List.getElem?_eq_some_iff.mp hq2).1
    exact h i q (by rw [List.getElem?_append_left hlt]; exact hq2)
theorem rot_D {A : Nat → Prop} {ws : va_W} {x : Nat × va_E} (h : va_D A (ws ++ [x])) : va_D A (x :: ws) := by
  refine h.by (fun i => if i = 0 then ws.length else i - 1) ?_ ?_
  · intro i q hq
    cases i with
    | zero => simpa using hq
    | succ i =>
      have hq2 : ws[i]? = some q := by simpa using hq
      have hlt : i < ws.length := (List.getElem?_eq_some_iff.mp hq2).1
      simp only [Nat.succ_ne_zero, if_false, Nat.add_sub_cancel, Nat.add_one_ne_zero]
      rw [List.getElem?_append_left hlt]; exact hq2
  · intro i j hi hj hij
    simp only [List.length_cons] at hi hj
    by_cases h1 : i = 0 <;> by_cases h2 : j = 0 <;> simp only [h1, h2, if_true, if_false] at hij ⊢ <;> omega
theorem mg_newi (C : Cx E X cc nL own ret fr lo rc rs) {x : Int32} {N : Nat} (harr : Cond.arrayClass .int ∈ gtbl) (hn : ¬ x < 0) (hN : x.toNatClampNeg = N) (hby : N * componentBytes .int ≤ 536870912) (hce : k + 1 ≤ rc) (hsl : n + N ≤ rs) (hdg : decode cc pc = .ok (.newarray .int, 2)) (kk : ∀ q : Nat, GG E X ((q, .inl (E.2.2.1, N, .inl (fun _ => 0))) :: ws) (k + 1) (n + N) (pc + 2) lv (.ref q :: rest)) : GG E X ws k n pc lv (.int x :: rest) := by
  obtain ⟨p, e, R, s, m, args, below, meth, c, A, Q⟩ := X
  obtain ⟨hx, hb, hml, hown, hts, hlk, hrt, hK, hnw, hA, hR⟩ := C
  intro H locs ls hP hD hS hl
  refine va_newa (atype := .int) (ty := .int) (a0 := (N, .inl (fun _ => 0))) hx hb (hts _ harr) rfl hK hP hD hS hA (fun _ => rfl) hn hN hby (by rw [hR]; exact hce) (by rw [hR]; exact hsl) hdg (fun q cA H1 hK1 hP1 hD1 hS1 => ?_)
  have e1 : va_RA s cA .int := (hK1.2 2 (cA, .int) rfl).2
  have e2 : va_RA s E.2.2.1 .int := (hK.2 0 (E.2.2.1, .int) rfl).2
  have e3 : cA = E.2.2.1 := Option.some.inj ((show s.vm.findClass _ = some cA from e1).symm.trans e2)
  subst e3
  exact kk q H1 locs ls (rot_P hP1) (rot_D hD1) hS1 hl
theorem mg_newl (C : Cx E X cc nL own ret fr lo rc rs) {x : Int32} {N : Nat} (harr : Cond.arrayClass .long ∈ gtbl) (hn : ¬ x < 0) (hN : x.toNatClampNeg = N) (hby : N * componentBytes .long ≤ 536870912) (hce : k + 1 ≤ rc) (hsl : n + N ≤ rs) (hdg : decode cc pc = .ok (.newarray .long, 2)) (kk : ∀ q : Nat, GG E X ((q, .inl (E.2.2.2, N, .inr (.inl (fun _ => 0)))) :: ws) (k + 1) (n + N) (pc + 2) lv (.ref q :: rest)) : GG E X ws k n pc lv (.int x :: rest) := by
  obtain ⟨p, e, R, s, m, args, below, meth, c, A, Q⟩ := X
  obtain ⟨hx, hb, hml, hown, hts, hlk, hrt, hK, hnw, hA, hR⟩ := C
  intro H locs ls hP hD hS hl
  refine va_newa (atype := .long) (ty := .long) (a0 := (N, .inr (.inl (fun _ => 0)))) hx hb (hts _ harr) rfl hK hP hD hS hA (fun _ => rfl) hn hN hby (by rw [hR]; exact hce) (by rw [hR]; exact hsl) hdg (fun q cA H1 hK1 hP1 hD1 hS1 => ?_)
  have e1 : va_RA s cA .long := (hK1.2 2 (cA, .long) rfl).2
  have e2 : va_RA s E.2.2.2 .long := (hK.2 1 (E.2.2.2, .long) rfl).2
  have e3 : cA = E.2.2.2 := Option.some.inj ((show s.vm.findClass _ = some cA from e1).symm.trans e2)
  subst e3
  exact kk q H1 locs ls (rot_P hP1) (rot_D hD1) hS1 hl
theorem mg_new (C : Cx E X cc nL own ret fr lo rc rs) {Cn : String} {T : u_T} {N ci idx : Nat} (hin : ∀ w ∈ u_ws Cn T N, w ∈ gtbl) (ty : Nat → FieldType) (hty : ∀ k, k < N → parseFieldDescriptor (T k).2.2.1 = some (ty k)) (hw : Cond.classLink own idx Cn ∈ gtbl ∧ Cond.instantiable Cn N ∈ gtbl ∧ Cond.initialized Cn ∈ gtbl) (hc : vwCl[ci]? = some (Cn, T, N)) {fs : List Value} (hfs : (List.range N).map (fun j => defaultValue (ty j)) = fs) (hce : k + 1 ≤ rc) (hsl : n + N ≤ rs) (hdg : decode cc pc = .ok (.new idx, 3)) (kk : ∀ q : Nat, GG E X ((q, .inr (ci, fs)) :: ws) (k + 1) (n + N) (pc + 3) lv (.ref q :: rest)) : GG E X ws k n pc lv rest := by
  obtain ⟨p, e, R, s, m, args, below, meth, c, A, Q⟩ := X
  obtain ⟨hx, hb, hml, hown, hts, hlk, hrt, hK, hnw, hA, hR⟩ := C
  intro H locs ls hP hD hS hl
  have hfs2 : ∀ j, j < N → defaultValue (ty j) = vp_V fs j := by
    intro j hj
    rw [← hfs]
    simp [vp_V, List.getD_eq_getElem?_getD, hj]
  exact va_new hx hb hts hin ty hty hown (hts _ hw.1) (hts _ hw.2.1) (hts _ hw.2.2) hK hP hD hS hA hc hfs2 (by rw [hR]; exact hce) (by rw [hR]; exact hsl) hdg (fun q H1 hP1 hD1 hS1 => kk q H1 locs ls (rot_P hP1) (rot_D hD1) hS1 hl)
theorem mg_objInit (C : Cx E X cc nL own ret fr lo rc rs) {idx a : Nat} (hw : Cond.methodLink own idx Lib.objectInit ∈ gtbl ∧ Cond.instanceMethod Lib.objectInit ∈ gtbl ∧ Cond.code Lib.objectInit ⟨#[0xb1]⟩ 1 none ∈ gtbl) (hfr : 1 ≤ fr) (hlo : (rest.map fun v => v.category).sum + 12 ≤ lo) (hdg : decode cc pc = .ok (.invokespecial idx, 3)) (kk : GG E X ws k n (pc + 3) lv rest) : GG E X ws k n pc lv (.ref a :: rest) := by
  obtain ⟨p, e, R, s, m, args, below, meth, c, A, Q⟩ := X
  obtain ⟨hx, hb, hml, hown, hts, hlk, hrt, hK, hnw, hA, hR⟩ := C
  intro H locs ls hP hD hS hl
  refine W.objInit hx hb hown (hts _ hw.1) (hts _ hw.2.1) (hts _ hw.2.2) rfl hl.1 rfl hdg (by rw [hR]; exact hfr) (by rw [hR]; show 2 * 0 + _ + 12 ≤ lo; omega) ?_
  exact kk H locs ls hP hD hS hl
theorem mg_iret (C : Cx E X cc nL own (some .int) fr lo rc rs) {Z : Option Value → va_W → Prop} (hQ : Rt E X Z k n) {v : Int32} (hdg : decode cc pc = .ok (.ireturn, 1)) (hz : Z (some (.int v)) ws) : GG E X ws k n pc lv [.int v] := by
  obtain ⟨p, e, R, s, m, args, below, meth, c, A, Q⟩ := X
  obtain ⟨hx, hb, hml, hown, hts, hlk, hrt, hK, hnw, hA, hR⟩ := C
  intro H locs ls hP hD hS hl
  have hQ2 : Q = MQ below (QQ E Z A) args s k n A := hQ
  rw [hQ2]
  exact W.iret hx hb hrt (fun t ht hW => ⟨⟨_, ws, rfl, hz, by rw [ht]; exact hP, va_K.moved hW.alike hK, hD⟩, hS.F ht⟩) hS.2.2 hdg
theorem mg_lret (C : Cx E X cc nL own (some .long) fr lo rc rs) {Z : Option Value → va_W → Prop} (hQ : Rt E X Z k n) {v : Int64} (hdg : decode cc pc = .ok (.lreturn, 1)) (hz : Z (some (.long v)) ws) : GG E X ws k n pc lv [.long v] := by
  obtain ⟨p, e, R, s, m, args, below, meth, c, A, Q⟩ := X
  obtain ⟨hx, hb, hml, hown, hts, hlk, hrt, hK, hnw, hA, hR⟩ := C
  intro H locs ls hP hD hS hl
  have hQ2 : Q = MQ below (QQ E Z A) args s k n A := hQ
  rw [hQ2]
  exact W.lret hx hb hrt (fun t ht hW => ⟨⟨_, ws, rfl, hz, by rw [ht]; exact hP, va_K.moved hW.alike hK, hD⟩, hS.F ht⟩) hS.2.2 hdg
theorem mg_zret (C : Cx E X cc nL own (some .boolean) fr lo rc rs) {Z : Option Value → va_W → Prop} (hQ : Rt E X Z k n) {v : Int32} (hnr : narrow .boolean (.int v) = .int v) (hdg : decode cc pc = .ok (.ireturn, 1)) (hz : Z (some (.int v)) ws) : GG E X ws k n pc lv [.int v] := by
  obtain ⟨p, e, R, s, m, args, below, meth, c, A, Q⟩ := X
  obtain ⟨hx, hb, hml, hown, hts, hlk, hrt, hK, hnw, hA, hR⟩ := C
  intro H locs ls hP hD hS hl
  have hQ2 : Q = MQ below (QQ E Z A) args s k n A := hQ
  rw [hQ2]
  exact W.zret hx hb hrt hnr (fun t ht hW => ⟨⟨_, ws, rfl, hz, by rw [ht]; exact hP, va_K.moved hW.alike hK, hD⟩, hS.F ht⟩) hS.2.2 hdg
theorem mg_vret (C : Cx E X cc nL own none fr lo rc rs) {Z : Option Value → va_W → Prop} (hQ : Rt E X Z k n) (hdg : decode cc pc = .ok (.return_, 1)) (hz : Z none ws) : GG E X ws k n pc lv [] := by
  obtain ⟨p, e, R, s, m, args, below, meth, c, A, Q⟩ := X
  obtain ⟨hx, hb, hml, hown, hts, hlk, hrt, hK, hnw, hA, hR⟩ := C
  intro H locs ls hP hD hS hl
  have hQ2 : Q = MQ below (QQ E Z A) args s k n A := hQ
  rw [hQ2]
  exact W.vret hx hb hrt (fun t ht hW => ⟨⟨_, ws, rfl, hz, by rw [ht]; exact hP, va_K.moved hW.alike hK, hD⟩, hS.F ht⟩) hS.2.2 hdg
end MG
theorem Ct.of {E : En} {M : Mth} {d mc ms : Nat} {av : List Value} {ws : va_W} {Z : Option Value → va_W → Prop} (hpl : plainName M.1.cls = true) (hlen : (lg_sl av).length ≤ M.2.2.1)
    (body : ∀ X : Fx, Cx E X M.2.1 M.2.2.1 M.1.cls M.2.2.2 d (40 * d) mc ms → Rt E X Z mc ms → X.2.2.2.2.2.2.2.1.name = M.1.name → GG E X ws 0 0 0 (lv_args 0 av) []) : Ct E M d mc ms av ws Z := by
  intro sz
  refine Met.ofW (cc := M.2.1) (maxL := M.2.2.1) (ret := M.2.2.2) hpl rfl ?_
  intro p e s m args below meth c s₁ B hml hv
  obtain ⟨rfl, hsz, hP, hK, hD0, hnw⟩ := hv
  have hts := atoms_spec (ws := gws M) B.pre
  have hown : s.vm.findClass M.1.cls = some m.cls := findClass_of_methodNamed B.named
  subst hsz
  have hl := lv_entry av (n := M.2.2.1) hlen
  rw [lg_entry_eq]
  have hD := hD0.self (sz := s.heap.size)
  exact body (p, e, { frames := d, cells := mc, slots := ms, locals := 40 * d }, s, m, av.toArray, below, meth, c, va_A ws s.heap.size, MQ below (QQ E Z (va_A ws s.heap.size)) av.toArray s mc ms (va_A ws s.heap.size))
    ⟨B.exec, B.bytes, hml, hown, fun w hw => hts w (List.mem_cons_of_mem _ hw), B.notSynchronized, B.returns, hK, hnw, fun q h => Or.inr h, rfl⟩ rfl (name_of_methodNamed B.named B.method).1
    s.heap [] _ hP hD va_S.rf (by rw [hml]; exact hl)
/-- weaker ends -/
theorem Ct.mono {E : En} {M : Mth} {d mc ms : Nat} {av : List Value} {ws : va_W} {Z Z' : Option Value → va_W → Prop} (h : Ct E M d mc ms av ws Z) (hz : ∀ v w, Z v w → Z' v w) : Ct E M d mc ms av ws Z' := by
  intro sz p e ha hc hk s m args below hf happ hP hKk
  obtain ⟨kk, o, h1, h2, h3, ⟨⟨v, w, e1, e2, e3⟩, e4⟩, L, hF⟩ := h sz p e ha hc hk s m args below hf happ hP hKk
  exact ⟨kk, o, h1, h2, h3, ⟨⟨v, w, e1, hz v w e2, e3⟩, e4⟩, L, hF⟩
section MC
variable {E : En} {X : Fx} {cc : ByteArray} {nL : Nat} {own : String} {ret : Option FieldType} {fr lo rc rs : Nat} {ws : va_W} {k n pc : Nat} {lv : List (Nat × Value)} {st rest : List Value} {M : Mth} {d mc ms idx : Nat} {As : List Value} {Z : Option Value → va_W → Prop}
theorem ct_blind {E : En} {av : List Value} {sz : Nat} {ws : va_W} : FrameBlind (va_Pc av (fun U => U.heap.size = sz ∧ va_P E.2.1 vwCl ws U.heap ∧ va_K E.2.1 vwCl (tyE E) U ∧ va_D (fun _ => True) ws ∧ NW U)) := by
  intro a U g mk q
  obtain ⟨q0, q1, qP, qK, qD, qN⟩ := q
  exact ⟨q0, q1, qP, va_K.moved (u := U) (U := U.calling g mk a) (Vm.Alike.refl U.vm) qK, qD, NW.same (s := U) (U := U.calling g mk a) rfl qN⟩
theorem va_callg {p : Program} {l : Launch} {e : Env} {R : Room} {s : State} {m : MethodId} {args : Array Value} {below : List Frame} {meth : Method} {c : Code} {H : Heap} {locs : List Loc} {cells slots : Nat} {Q : State → Prop}
    {pc : Nat} {ls : Array Slot} {rest st0 : List Value} {a : Array Value} {A0 A1 : Nat → Prop} {H0 : Heap} {mc ms : Nat} {free : Addr → Prop} {E : En} {Z : Option Value → va_W → Prop}
    (hr : va_Run p l e R s m args below meth c H locs cells slots mc ms (F0 m pc ls st0) rest (QQ E Z A1 a) free) (hS : va_S A0 H0 H locs) (hA : ∀ q, q < H.size → A1 q → A0 q) (hf : ∀ q, free q → A0 q)
    (kk : ∀ (v : Option Value) (w : va_W) (H1 : Heap) (locs1 : List Loc), Z v w → va_P E.2.1 vwCl w H1 → va_D A1 w → va_S A0 H0 H1 locs1 → W p l e R s m args below meth c H1 locs1 (cells + mc) (slots + ms) Q (F0 m (pc + 3) ls (v.toList ++ rest))) : W p l e R s m args below meth c H locs cells slots Q (F0 m pc ls st0) := by
  intro T hT X
  obtain ⟨v, st₀, t, T', L, h0, X', hL, e1, e2, ⟨⟨v', w, hv, hz, hP, hK, hD⟩, hz2, hk⟩, st⟩ := hr T hT X
  cases hv
  rw [h0] at hz2 hk
  obtain ⟨t2, a1, b1⟩ := kk v w T'.heap (locs ++ L) hz (by rw [e1]; exact hP) hD
    ⟨Nat.le_trans hS.1 (by rw [e1]; exact hz2), fun q h1 h2 => by rw [e1, hk q (Nat.lt_of_lt_of_le h1 hS.1) (fun z => h2 (hA q (Nat.lt_of_lt_of_le h1 hS.1) z))]; exact hS.2.1 q h1 h2, fun q hq => by
      rcases List.mem_append.mp hq with h | h
      · exact hS.2.2 q h
      · exact hf _ (hL q h)⟩ T' rfl X'
  exact ⟨t2, st t2 a1, b1⟩
theorem free_self {A0 : Nat → Prop} {ws : va_W} {H0 H : Heap} {locs : List Loc} (hD : va_D A0 ws) (hS : va_S A0 H0 H locs) (hA : ∀ q, H0.size ≤ q → A0 q) : ∀ q, va_A ws H.size q → A0 q := by
  intro q h
  rcases h with ⟨i, x, h⟩ | h
  · exact hD.2 i (q, x) h
  · exact hA q (Nat.le_trans hS.1 h)
abbrev OkM (M : Mth) (np : Nat) : Prop := M.1.cls ≠ "java/lang/invoke/MethodHandle" ∧ M.1.cls ≠ "java/lang/invoke/VarHandle" ∧ (parseMethodDescriptor M.1.desc).map (fun d => d.parameters.length) = some np
abbrev RoomOk (d mc ms nl fr lo rc rs k n : Nat) : Prop := (Nat.ble (d + 1) fr && Nat.ble (8 + (nl + 11) + 40 * d) lo && Nat.ble (k + mc) rc && Nat.ble (n + ms) rs) = true
theorem RoomOk.get {d mc ms nl fr lo rc rs k n : Nat} (h : RoomOk d mc ms nl fr lo rc rs k n) : (d + 1 ≤ fr ∧ 8 + (nl + 11) + 40 * d ≤ lo) ∧ k + mc ≤ rc ∧ n + ms ≤ rs := by
  simp only [RoomOk, Bool.and_eq_true] at h
  exact ⟨⟨Nat.le_of_ble_eq_true h.1.1.1, Nat.le_of_ble_eq_true h.1.1.2⟩, Nat.le_of_ble_eq_true h.1.2, Nat.le_of_ble_eq_true h.2⟩
theorem mg_callV (C : Cx E X cc nL own ret fr lo rc rs) {h : Nat} (K : Ct E M d mc ms (.ref h :: As) ws Z) (O : OkM M As.length ∧ Cond.code M.1 M.2.1 M.2.2.1 M.2.2.2 ∈ gtbl ∧ Cond.initialized M.1.cls ∈ gtbl ∧ Cond.methodLink own idx M.1 ∈ gtbl ∧ Cond.instanceMethod M.1 ∈ gtbl ∧ Cond.selects M.1.cls M.1 M.1 ∈ gtbl) (q0 : Nat) {ci : Nat} {fs : List Value} (hq : ws[q0]? = some (h, .inr (ci, fs))) {T : u_T} {N : Nat} (hc : vwCl[ci]? = some (M.1.cls, T, N)) (hrm : RoomOk d mc ms M.2.2.1 fr lo rc rs k n) (hst : st = As.reverse ++ .ref h :: rest) (hrest : Nat.ble (rest.map fun v => v.category).sum 8 = true) (hdg : decode cc pc = .ok (.invokevirtual idx, 3)) (kk : ∀ v w, Z v w → GG E X w (k + mc) (n + ms) (pc + 3) lv (v.toList ++ rest)) : GG E X ws k n pc lv st := by
  obtain ⟨p, e, R, s, m, args, below, meth, c, A, Q⟩ := X
  obtain ⟨hx, hb, hml, hown, hts, hlk, hrt, hK, hnw, hA, hR⟩ := C
  intro H locs ls hP hD hS hl
  subst hst
  have hrm := hrm.get
  obtain ⟨hO1, hO2, hO3, hO4, hO5⟩ := O
  have hFc := free_self hD hS hA
  subst hR
  refine va_callg (va_runV (As := As) (rest := rest) ⟨hx, hb, hml, hown, hts⟩ (K H.size) ⟨callB_of As.length hts (gws_in hO2) rfl rfl rfl (hts _ hO3) (hts _ hO4) hO1 hrm.1, hts _ hO5.1, hts _ hO5.2⟩ ⟨ct_blind, va_recv hK hP (ci := ci) (q0 := q0) hc hq, fun U hU hW => ⟨rfl, by rw [hU], by rw [hU]; exact hP, va_K.moved hW.alike hK, hD.weaken (fun _ _ _ _ => trivial), NW.warm hW hnw⟩⟩ rfl rfl (hl.1.trans hml) rfl (lv_room (Nat.le_of_ble_eq_true hrest)) hdg hrm.2) hS (fun q _ h => hFc q h) hFc (fun v w H1 locs1 hz hP1 hD1 hS1 => ?_)
  exact kk v w hz H1 locs1 ls hP1 (hD1.weaken (fun _ _ _ h => hFc _ h)) hS1 hl
theorem mg_callS (C : Cx E X cc nL own ret fr lo rc rs) (K : Ct E M d mc ms As ws Z) (O : OkM M As.length ∧ Cond.code M.1 M.2.1 M.2.2.1 M.2.2.2 ∈ gtbl ∧ Cond.initialized M.1.cls ∈ gtbl ∧ Cond.methodLink own idx M.1 ∈ gtbl ∧ Cond.static M.1 ∈ gtbl ∧ True) (hrm : RoomOk d mc ms M.2.2.1 fr lo rc rs k n) (hst : st = As.reverse ++ rest) (hrest : Nat.ble (rest.map fun v => v.category).sum 8 = true) (hdg : decode cc pc = .ok (.invokestatic idx, 3)) (kk : ∀ v w, Z v w → GG E X w (k + mc) (n + ms) (pc + 3) lv (v.toList ++ rest)) : GG E X ws k n pc lv st := by
  obtain ⟨p, e, R, s, m, args, below, meth, c, A, Q⟩ := X
  obtain ⟨hx, hb, hml, hown, hts, hlk, hrt, hK, hnw, hA, hR⟩ := C
  intro H locs ls hP hD hS hl
  subst hst
  have hrm := hrm.get
  obtain ⟨hO1, hO2, hO3, hO4, hO5⟩ := O
  have hFc := free_self hD hS hA
  subst hR
  refine va_callg (va_runS (As := As) (rest := rest) ⟨hx, hb, hml, hown, hts⟩ (K H.size) ⟨callB_of As.length hts (gws_in hO2) rfl rfl rfl (hts _ hO3) (hts _ hO4) hO1 hrm.1, hts _ hO5.1⟩ ⟨ct_blind, fun U hU hW => ⟨rfl, by rw [hU], by rw [hU]; exact hP, va_K.moved hW.alike hK, hD.weaken (fun _ _ _ _ => trivial), NW.warm hW hnw⟩⟩ rfl rfl (hl.1.trans hml) rfl (lv_room (Nat.le_of_ble_eq_true hrest)) hdg hrm.2) hS (fun q _ h => hFc q h) hFc (fun v w H1 locs1 hz hP1 hD1 hS1 => ?_)
  exact kk v w hz H1 locs1 ls hP1 (hD1.weaken (fun _ _ _ h => hFc _ h)) hS1 hl
theorem mg_callI (C : Cx E X cc nL own ret fr lo rc rs) {h : Nat} (K : Ct E M d mc ms (.ref h :: As) ws Z) (O : OkM M As.length ∧ Cond.code M.1 M.2.1 M.2.2.1 M.2.2.2 ∈ gtbl ∧ Cond.initialized M.1.cls ∈ gtbl ∧ Cond.methodLink own idx M.1 ∈ gtbl ∧ Cond.instanceMethod M.1 ∈ gtbl ∧ M.1.name = "<init>") (hrn : M.2.2.2 = none) (hrm : RoomOk d mc ms M.2.2.1 fr lo rc rs k n) (hst : st = As.reverse ++ .ref h :: rest) (hrest : Nat.ble (rest.map fun v => v.category).sum 8 = true) (hdg : decode cc pc = .ok (.invokespecial idx, 3)) (kk : ∀ v w, Z v w → GG E X w (k + mc) (n + ms) (pc + 3) lv (v.toList ++ rest)) : GG E X ws k n pc lv st := by
  obtain ⟨p, e, R, s, m, args, below, meth, c, A, Q⟩ := X
  obtain ⟨hx, hb, hml, hown, hts, hlk, hrt, hK, hnw, hA, hR⟩ := C
  intro H locs ls hP hD hS hl
  obtain ⟨y, bb, nl2, rt⟩ := M
  have hrn2 : rt = none := hrn
  subst hrn2
  subst hst
  have hrm := hrm.get
  obtain ⟨hO1, hO2, hO3, hO4, hO5⟩ := O
  have hFc := free_self hD hS hA
  subst hR
  refine va_callg (va_runI (As := As) (rest := rest) ⟨hx, hb, hml, hown, hts⟩ (K H.size) ⟨callB_of As.length hts (gws_in hO2) rfl rfl rfl (hts _ hO3) (hts _ hO4) hO1 hrm.1, hO5.2, hts _ hO5.1⟩ ⟨ct_blind, fun U hU hW => ⟨rfl, by rw [hU], by rw [hU]; exact hP, va_K.moved hW.alike hK, hD.weaken (fun _ _ _ _ => trivial), NW.warm hW hnw⟩⟩ rfl rfl (hl.1.trans hml) rfl (lv_room (Nat.le_of_ble_eq_true hrest)) hdg hrm.2) hS (fun q _ h => hFc q h) hFc (fun v w H1 locs1 hz hP1 hD1 hS1 => ?_)
  exact kk v w hz H1 locs1 ls hP1 (hD1.weaken (fun _ _ _ h => hFc _ h)) hS1 hl
theorem mg_callVN (C : Cx E X cc nL own ret fr lo rc rs) {h : Nat} {host : String} (K : Ct E M d mc ms (.ref h :: As) ws Z) (O : OkM M As.length ∧ Cond.code M.1 M.2.1 M.2.2.1 M.2.2.2 ∈ gtbl ∧ Cond.initialized M.1.cls ∈ gtbl ∧ Cond.methodLinkNest own idx M.1 host ∈ lw_tbl ∧ Cond.instanceMethod M.1 ∈ gtbl ∧ Cond.selects M.1.cls M.1 M.1 ∈ gtbl) (q0 : Nat) {ci : Nat} {fs : List Value} (hq : ws[q0]? = some (h, .inr (ci, fs))) {T : u_T} {N : Nat} (hc : vwCl[ci]? = some (M.1.cls, T, N)) (hrm : RoomOk d mc ms M.2.2.1 fr lo rc rs k n) (hst : st = As.reverse ++ .ref h :: rest) (hrest : Nat.ble (rest.map fun v => v.category).sum 8 = true) (hdg : decode cc pc = .ok (.invokevirtual idx, 3)) (kk : ∀ v w, Z v w → GG E X w (k + mc) (n + ms) (pc + 3) lv (v.toList ++ rest)) : GG E X ws k n pc lv st := by
  obtain ⟨p, e, R, s, m, args, below, meth, c, A, Q⟩ := X
  obtain ⟨hx, hb, hml, hown, hts, hlk, hrt, hK, hnw, hA, hR⟩ := C
  intro H locs ls hP hD hS hl
  subst hst
  have hrm := hrm.get
  obtain ⟨hO1, hO2, hO3, hO4, hO5⟩ := O
  have hFc := free_self hD hS hA
  subst hR
  refine va_callg (va_runVN (As := As) (rest := rest) ⟨hx, hb, hml, hown, hts⟩ (K H.size) ⟨va_cnB As.length hts (gws_in hO2) rfl rfl rfl (hnw _ hO4 rfl) (hts _ hO3) hO1 hrm.1, hts _ hO5.1, hts _ hO5.2⟩ ⟨ct_blind, va_recv hK hP (ci := ci) (q0 := q0) hc hq, fun U hU hW => ⟨rfl, by rw [hU], by rw [hU]; exact hP, va_K.moved hW.alike hK, hD.weaken (fun _ _ _ _ => trivial), NW.warm hW hnw⟩⟩ rfl rfl (hl.1.trans hml) rfl (lv_room (Nat.le_of_ble_eq_true hrest)) hdg hrm.2) hS (fun q _ h => hFc q h) hFc (fun v w H1 locs1 hz hP1 hD1 hS1 => ?_)
  exact kk v w hz H1 locs1 ls hP1 (hD1.weaken (fun _ _ _ h => hFc _ h)) hS1 hl
theorem mg_callSN (C : Cx E X cc nL own ret fr lo rc rs) {host : String} (K : Ct E M d mc ms As ws Z) (O : OkM M As.length ∧ Cond.code M.1 M.2.1 M.2.2.1 M.2.2.2 ∈ gtbl ∧ Cond.initialized M.1.cls ∈ gtbl ∧ Cond.methodLinkNest own idx M.1 host ∈ lw_tbl ∧ Cond.static M.1 ∈ gtbl ∧ True) (hrm : RoomOk d mc ms M.2.2.1 fr lo rc rs k n) (hst : st = As.reverse ++ rest) (hrest : Nat.ble (rest.map fun v => v.category).sum 8 = true) (hdg : decode cc pc = .ok (.invokestatic idx, 3)) (kk : ∀ v w, Z v w → GG E X w (k + mc) (n + ms) (pc + 3) lv (v.toList ++ rest)) : GG E X ws k n pc lv st := by
  obtain ⟨p, e, R, s, m, args, below, meth, c, A, Q⟩ := X
  obtain ⟨hx, hb, hml, hown, hts, hlk, hrt, hK, hnw, hA, hR⟩ := C
  intro H locs ls hP hD hS hl
  subst hst
  have hrm := hrm.get
  obtain ⟨hO1, hO2, hO3, hO4, hO5⟩ := O
  have hFc := free_self hD hS hA
  subst hR
  refine va_callg (va_runSN (As := As) (rest := rest) ⟨hx, hb, hml, hown, hts⟩ (K H.size) ⟨va_cnB As.length hts (gws_in hO2) rfl rfl rfl (hnw _ hO4 rfl) (hts _ hO3) hO1 hrm.1, hts _ hO5.1, trivial⟩ ⟨ct_blind, fun U hU hW => ⟨rfl, by rw [hU], by rw [hU]; exact hP, va_K.moved hW.alike hK, hD.weaken (fun _ _ _ _ => trivial), NW.warm hW hnw⟩⟩ rfl rfl (hl.1.trans hml) rfl (lv_room (Nat.le_of_ble_eq_true hrest)) hdg hrm.2) hS (fun q _ h => hFc q h) hFc (fun v w H1 locs1 hz hP1 hD1 hS1 => ?_)
  exact kk v w hz H1 locs1 ls hP1 (hD1.weaken (fun _ _ _ h => hFc _ h)) hS1 hl
theorem mg_callIN (C : Cx E X cc nL own ret fr lo rc rs) {h : Nat} {host : String} (K : Ct E M d mc ms (.ref h :: As) ws Z) (O : OkM M As.length ∧ Cond.code M.1 M.2.1 M.2.2.1 M.2.2.2 ∈ gtbl ∧ Cond.initialized M.1.cls ∈ gtbl ∧ Cond.methodLinkNest own idx M.1 host ∈ lw_tbl ∧ Cond.instanceMethod M.1 ∈ gtbl ∧ M.1.name = "<init>") (hrn : M.2.2.2 = none) (hrm : RoomOk d mc ms M.2.2.1 fr lo rc rs k n) (hst : st = As.reverse ++ .ref h :: rest) (hrest : Nat.ble (rest.map fun v => v.category).sum 8 = true) (hdg : decode cc pc = .ok (.invokespecial idx, 3)) (kk : ∀ v w, Z v w → GG E X w (k + mc) (n + ms) (pc + 3) lv (v.toList ++ rest)) : GG E X ws k n pc lv st := by
  obtain ⟨p, e, R, s, m, args, below, meth, c, A, Q⟩ := X
  obtain ⟨hx, hb, hml, hown, hts, hlk, hrt, hK, hnw, hA, hR⟩ := C
  intro H locs ls hP hD hS hl
  obtain ⟨y, bb, nl2, rt⟩ := M
  have hrn2 : rt = none := hrn
  subst hrn2
  subst hst
  have hrm := hrm.get
  obtain ⟨hO1, hO2, hO3, hO4, hO5⟩ := O
  have hFc := free_self hD hS hA
  subst hR
  refine va_callg (va_runIN (As := As) (rest := rest) ⟨hx, hb, hml, hown, hts⟩ (K H.size) ⟨va_cnB As.length hts (gws_in hO2) rfl rfl rfl (hnw _ hO4 rfl) (hts _ hO3) hO1 hrm.1, hO5.2, hts _ hO5.1⟩ ⟨ct_blind, fun U hU hW => ⟨rfl, by rw [hU], by rw [hU]; exact hP, va_K.moved hW.alike hK, hD.weaken (fun _ _ _ _ => trivial), NW.warm hW hnw⟩⟩ rfl rfl (hl.1.trans hml) rfl (lv_room (Nat.le_of_ble_eq_true hrest)) hdg hrm.2) hS (fun q _ h => hFc q h) hFc (fun v w H1 locs1 hz hP1 hD1 hS1 => ?_)
  exact kk v w hz H1 locs1 ls hP1 (hD1.weaken (fun _ _ _ h => hFc _ h)) hS1 hl
end MC
