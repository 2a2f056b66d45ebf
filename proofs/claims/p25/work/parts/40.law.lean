-- ===== end of PART A; then your names; then what follows =====
/-! THE CLAIM OUT OF ONE WALK OF THE LAW'S BODY. Your part is whole_start (and what it stands on); all else here is the same for every law, but numbers. -/
def R_law : String := "MeshSumsLaw"
def lw_P (b : Addr) (xs : List Int32) (args : Array Value) (s : State) : Prop := args = #[.ref b] ∧ s.IntsAt b xs ∧ xs.length ≤ 2048 ∧ (Jvm.Cond.and given_1 narrow_1).before args s = true
def lw_Q (_ : Array Value) (s : State) (o : Outcome) (t : State) : Prop := o = .returned (some (.int 1)) ∧ Framed s o t [] 600000 7302250
def lw_Z (below : List Frame) (a : Array Value) (s : State) : State → Prop := fun t => ∃ o, t.status = .running ∧ Ended t below o ∧ lw_Q a s o t
/-- the law's own end, with 1 on the stack, nothing written that was there before, its room as the claim has it -/
theorem lw_ret {p : Program} {l : Launch} {e : Env} {s : State} {m : MethodId} {below : List Frame} {meth : Method} {c : Code} {b : Nat} (hx : p.tables.exec = Jvm.exec) (hb : c.code = code) (hr : meth.sig.returnType = ret) (hlocks : meth.locks = false) {pc : Nat} {H : Heap} {ls : Array Slot} (hdg : decode code pc = .ok (.ireturn, 1)) : W p l e room_1 s m #[Value.ref b] below meth c H [] 600000 7302250 (lw_Z below #[Value.ref b] s) (F0 m pc ls [.int 1]) := by
  intro T hT X
  obtain ⟨fs, hret, hrun, hended, hW, hframe⟩ := X.leave (v := some (.int 1)) (hlocks := hlocks) (fun h => by rw [hr] at h; cases h)
  have hmeth' : T.vm.method? m = some meth := X.method'
  refine ⟨T.setFrames fs, ?_, .returned (some (.int 1)), hrun, hended, rfl, ⟨_, rfl⟩, hW, hframe⟩
  jvm_step X.here [X.here.top, hx, hb, hdg, hmeth', hr, ret, narrow_b1]
  (try refine ⟨rfl, ?_⟩); (try refine ⟨rfl, ?_⟩)
  first | (intro acts; rw [hret _ acts rfl rfl rfl]) | rw [hret _ _ rfl rfl rfl]
  exact Steps.refl _
/-- what holds at the law's entry: the machine, the code, the tables' words (any of lw_tbl by 'hts w (by decide +kernel)'), the script of L ints xs at the cell b, what the Statement gives of the start (any of its parts by flat_of_before) -/
def lw_At (p : Program) (s : State) (m : MethodId) (meth : Method) (c : Code) (b L : Nat) (xs : Nat → Int32) : Prop :=
  p.tables.exec = Jvm.exec ∧ c.code = code ∧ meth.sig.returnType = ret ∧ c.maxLocals = 4 ∧ s.vm.findClass R_law = some m.cls ∧ (∀ w ∈ lw_tbl, w.before #[Value.ref b] s = true) ∧ va_X b L xs s s.heap ∧ b < s.heap.size ∧ meth.locks = false ∧ (Jvm.Cond.and given_1 narrow_1).before #[Value.ref b] s = true

def Sc (X : Fx) (b L : Nat) (xs : Nat → Int32) : Prop :=
  match X with
  | (_, _, _, s, _, _, _, _, _, A, _) => va_X b L xs s s.heap ∧ b < s.heap.size ∧ ¬ A b
def Lq (X : Fx) (b : Nat) : Prop :=
  match X with
  | (_, _, R, s, _, args, below, _, _, A, Q) => Q = lw_Z below #[Value.ref b] s ∧ args = #[Value.ref b] ∧ (∀ q, A q → s.heap.size ≤ q) ∧ R = room_1
section LG
variable {E : En} {X : Fx} {cc : ByteArray} {nL : Nat} {own : String} {rt : Option FieldType} {fr lo rc rs : Nat} {ws : va_W} {k n pc : Nat} {lv : List (Nat × Value)} {rest : List Value} {b L : Nat} {xs : Nat → Int32}
theorem mg_sld (C : Cx E X cc nL own rt fr lo rc rs) (hs : Sc X b L xs) {i : Int32} (hin : vp_in i L) (hdg : decode cc pc = .ok (.iaload, 1)) (kk : GG E X ws k n (pc + 1) lv (.int (xs i.toNatClampNeg) :: rest)) : GG E X ws k n pc lv (.int i :: .ref b :: rest) := by
  obtain ⟨p, e, R, s, m, args, below, meth, c, A, Q⟩ := X
  obtain ⟨hx, hb, hml, hown, hts, hlk, hrt, hK, hnw, hA, hR⟩ := C
  obtain ⟨h1, h2, h3⟩ := hs
  intro H locs ls hP hD hS hl
  exact va_sld hx hb h1 h2 h3 hS hin hdg (kk H locs ls hP hD hS hl)
theorem mg_slen (C : Cx E X cc nL own rt fr lo rc rs) (hs : Sc X b L xs) (hdg : decode cc pc = .ok (.arraylength, 1)) (kk : GG E X ws k n (pc + 1) lv (.int (nI L) :: rest)) : GG E X ws k n pc lv (.ref b :: rest) := by
  obtain ⟨p, e, R, s, m, args, below, meth, c, A, Q⟩ := X
  obtain ⟨hx, hb, hml, hown, hts, hlk, hrt, hK, hnw, hA, hR⟩ := C
  obtain ⟨h1, h2, h3⟩ := hs
  intro H locs ls hP hD hS hl
  exact va_slen hx hb h1 h2 h3 hS hdg (kk H locs ls hP hD hS hl)
theorem mg_lawret (C : Cx E X code nL own ret fr lo rc rs) (hq : Lq X b) (h1 : k ≤ 600000) (h2 : n ≤ 7302250) (hdg : decode code pc = .ok (.ireturn, 1)) : GG E X ws k n pc lv [.int 1] := by
  obtain ⟨p, e, R, s, m, args, below, meth, c, A, Q⟩ := X
  obtain ⟨hx, hb, hml, hown, hts, hlk, hrt, hK, hnw, hA, hR⟩ := C
  obtain ⟨e1, e2, e3, e4⟩ := hq
  subst e1; subst e2; subst e4
  intro H locs ls hP hD hS hl
  refine va_forget (fun q hq => e3 _ (hS.2.2 q hq)) ?_
  refine W.widen h1 h2 ?_
  exact lw_ret hx hb hrt hlk hdg
end LG
theorem lgc0 {x y : Int64} (h : x = y) : lg_cmp x y = 0 := by
  subst h
  unfold lg_cmp
  rw [if_neg (Int64.lt_irrefl), if_pos rfl]
theorem lawin {i L : Nat} (j : Nat) (h : i + j < L) (hL : L ≤ 100000) : vp_in (nI i + nI j) L := by rw [nI_add]; exact vp_in_nI h (by omega)
theorem rm_ok {d mc ms nl k n : Nat} (h : (Nat.ble (d + 1) 8 && Nat.ble (8 + (nl + 11) + 40 * d) 288) = true) (hk : k + mc ≤ 600000) (hn : n + ms ≤ 7302250) : RoomOk d mc ms nl 8 288 600000 7302250 k n := by
  simp only [Bool.and_eq_true] at h
  simp only [RoomOk, Bool.and_eq_true]
  exact ⟨⟨⟨h.1, h.2⟩, Nat.ble_eq_true_of_le hk⟩, Nat.ble_eq_true_of_le hn⟩
/-- class and reference stand in the same shared state, at i of the script -/
def Nx (E : En) (X : Fx) (b x0 m0 i k n pc : Nat) : Prop := ∀ (adc : Nat → Nat) (fl : Nat) (g : Nat → Int32) (a : Nat → Nat → Int32) (v : Nat → Int64) (adm : Nat → Nat) (gm : Nat → Int32) (am : Nat → Nat → Int32) (vm : Nat → Int64), adc 19 = x0 → adm 17 = m0 → CV fl g a → MO gm am → Sh g a gm am → GG E X (cw E adc fl g a v (mw E adm gm am vm [])) k n pc [(0, .ref b), (1, .ref x0), (2, .ref m0), (3, .int (nI i))] []
theorem cv_F : CV 16 gF aF := ⟨⟨1, 1, 1, 0, 0, 0, 0, ⟨⟨rfl, by omega, by omega⟩, ⟨rfl, by omega, by omega⟩, ⟨rfl, by omega, by omega⟩, ⟨rfl, by omega⟩, rfl, ⟨rfl, by omega⟩, by omega, fun _ => rfl, fun h => absurd rfl h⟩, ⟨rfl, by omega, by omega⟩, fun i _ => ⟨0, by omega, rfl⟩, fun _ _ _ _ _ => rfl⟩, Or.inl rfl⟩
theorem mo_F : MO gF aF := ⟨⟨1, 1, 1, 0, 0, 0, 0, ⟨⟨rfl, by omega, by omega⟩, ⟨rfl, by omega, by omega⟩, ⟨rfl, by omega, by omega⟩, ⟨rfl, by omega⟩, rfl, ⟨rfl, by omega⟩, by omega, fun _ => rfl, fun h => absurd rfl h⟩, ⟨rfl, by omega, by omega⟩, fun i _ => ⟨0, by omega, rfl⟩, fun _ _ _ _ _ => rfl⟩, fun i _ => ⟨0, by omega, rfl⟩, fun j hj => absurd hj (Nat.not_lt_zero j)⟩
set_option maxHeartbeats 400000 in
set_option maxRecDepth 100000 in
theorem law_c0 (E : En) (X : Fx) (b L x0 m0 : Nat) (xs : Nat → Int32) (C : Cx E X code 4 RL ret 8 288 600000 7302250) (hs : Sc X b L xs) (hL : L ≤ 100000) (i k n : Nat) (hi : i + 4 ≤ L) (hk : k + 1 ≤ 600000) (hn : n + 8000 ≤ 7302250) (fin : Nx E X b x0 m0 i (k + 1) (n + 8000) 823) : Nx E X b x0 m0 i k n 148 := by
  intro adc fl g a v adm gm am vm e1 e2 hC hM hS
  subst e1; subst e2
  refine mg_aload_n C dL_law_148 rfl ?_
  refine mg_aload_n C dL_law_149 rfl ?_
  refine mg_iload_n C dL_law_150 rfl ?_
  refine mg_iconst (v := 1) C dL_law_151 (by decide) ?_
  refine mg_iadd C dL_law_152 ?_
  refine mg_sld C hs (show vp_in (nI i + 1) L from lawin 1 (by omega) (by omega)) dL_law_153 ?_
  refine mg_aload_n C dL_law_154 rfl ?_
  refine mg_iload_n C dL_law_155 rfl ?_
  refine mg_iconst (v := 2) C dL_law_156 (by decide) ?_
  refine mg_iadd C dL_law_157 ?_
  refine mg_sld C hs (show vp_in (nI i + 2) L from lawin 2 (by omega) (by omega)) dL_law_158 ?_
  refine mg_aload_n C dL_law_159 rfl ?_
  refine mg_iload_n C dL_law_160 rfl ?_
  refine mg_iconst (v := 3) C dL_law_161 (by decide) ?_
  refine mg_iadd C dL_law_162 ?_
  refine mg_sld C hs (show vp_in (nI i + 3) L from lawin 3 (by omega) (by omega)) dL_law_163 ?_
  refine mg_callV C (cv_mesh E _ _ _ _ _ _ _ _ _ hC) oL_13 19 rfl rfl (rm_ok rfl (by omega) (by omega)) rfl rfl dL_law_164 (fun o1 w1 z1 => ?_)
  obtain ⟨ad1, fl1, g1, a1, v1, rfl, hS1, hC1, had1, rfl⟩ := z1
  refine mg_v ?_
  refine mg_ws (ws' := cw E ad1 fl1 g1 a1 v1 [] ++ mw E adm gm am vm []) rfl ?_
  refine mg_swap ?_
  refine mg_ws (ws' := mw E adm gm am vm (cw E ad1 fl1 g1 a1 v1 [])) rfl ?_
  refine mg_pop C dL_law_167 rfl ?_
  refine mg_aload_n C dL_law_168 rfl ?_
  refine mg_aload_n C dL_law_169 rfl ?_
  refine mg_iload_n C dL_law_170 rfl ?_
  refine mg_iconst (v := 1) C dL_law_171 (by decide) ?_
  refine mg_iadd C dL_law_172 ?_
  refine mg_sld C hs (show vp_in (nI i + 1) L from lawin 1 (by omega) (by omega)) dL_law_173 ?_
  refine mg_aload_n C dL_law_174 rfl ?_
  refine mg_iload_n C dL_law_175 rfl ?_
  refine mg_iconst (v := 2) C dL_law_176 (by decide) ?_
  refine mg_iadd C dL_law_177 ?_
  refine mg_sld C hs (show vp_in (nI i + 2) L from lawin 2 (by omega) (by omega)) dL_law_178 ?_
  refine mg_aload_n C dL_law_179 rfl ?_
  refine mg_iload_n C dL_law_180 rfl ?_
  refine mg_iconst (v := 3) C dL_law_181 (by decide) ?_
  refine mg_iadd C dL_law_182 ?_
  refine mg_sld C hs (show vp_in (nI i + 3) L from lawin 3 (by omega) (by omega)) dL_law_183 ?_
  refine mg_callV C (mv_mesh E _ _ _ _ _ _ _ _ hM) oL_17 17 rfl rfl (rm_ok rfl (by omega) (by omega)) rfl rfl dL_law_184 (fun o2 w2 z2 => ?_)
  obtain ⟨ad2, g2, a2, v2, rfl, hS2, hM2, had2, rfl⟩ := z2
  refine mg_v ?_
  refine mg_ws (ws' := mw E ad2 g2 a2 v2 [] ++ cw E ad1 fl1 g1 a1 v1 []) rfl ?_
  refine mg_swap ?_
  refine mg_ws (ws' := cw E ad1 fl1 g1 a1 v1 (mw E ad2 g2 a2 v2 [])) rfl ?_
  refine mg_pop C dL_law_187 rfl ?_
  refine mg_goto C 823 dL_law_188 (by decide) ?_
  refine mg_widen' (k' := k + 1) (n' := n + 8000) (by omega) (by omega) ?_
  exact fin ad1 fl1 g1 a1 v1 ad2 g2 a2 v2 had1 had2 hC1 hM2 (hS1.two (sh_mesh hS _ _ _) hS2)
set_option maxHeartbeats 400000 in
set_option maxRecDepth 100000 in
theorem law_c1 (E : En) (X : Fx) (b L x0 m0 : Nat) (xs : Nat → Int32) (C : Cx E X code 4 RL ret 8 288 600000 7302250) (hs : Sc X b L xs) (hL : L ≤ 100000) (i k n : Nat) (hi : i + 4 ≤ L) (hk : k + 1 ≤ 600000) (hn : n + 8000 ≤ 7302250) (fin : Nx E X b x0 m0 i (k + 1) (n + 8000) 823) : Nx E X b x0 m0 i k n 191 := by
  intro adc fl g a v adm gm am vm e1 e2 hC hM hS
  subst e1; subst e2
  refine mg_aload_n C dL_law_191 rfl ?_
  refine mg_aload_n C dL_law_192 rfl ?_
  refine mg_iload_n C dL_law_193 rfl ?_
  refine mg_iconst (v := 1) C dL_law_194 (by decide) ?_
  refine mg_iadd C dL_law_195 ?_
  refine mg_sld C hs (show vp_in (nI i + 1) L from lawin 1 (by omega) (by omega)) dL_law_196 ?_
  refine mg_aload_n C dL_law_197 rfl ?_
  refine mg_iload_n C dL_law_198 rfl ?_
  refine mg_iconst (v := 2) C dL_law_199 (by decide) ?_
  refine mg_iadd C dL_law_200 ?_
  refine mg_sld C hs (show vp_in (nI i + 2) L from lawin 2 (by omega) (by omega)) dL_law_201 ?_
  refine mg_aload_n C dL_law_202 rfl ?_
  refine mg_iload_n C dL_law_203 rfl ?_
  refine mg_iconst (v := 3) C dL_law_204 (by decide) ?_
  refine mg_iadd C dL_law_205 ?_
  refine mg_sld C hs (show vp_in (nI i + 3) L from lawin 3 (by omega) (by omega)) dL_law_206 ?_
  refine mg_callV C (cv_write E _ _ _ _ _ _ _ _ _ hC) oL_18 19 rfl rfl (rm_ok rfl (by omega) (by omega)) rfl rfl dL_law_207 (fun o1 w1 z1 => ?_)
  obtain ⟨ad1, fl1, g1, a1, v1, rfl, hS1, hC1, had1, rfl⟩ := z1
  refine mg_v ?_
  refine mg_ws (ws' := cw E ad1 fl1 g1 a1 v1 [] ++ mw E adm gm am vm []) rfl ?_
  refine mg_swap ?_
  refine mg_ws (ws' := mw E adm gm am vm (cw E ad1 fl1 g1 a1 v1 [])) rfl ?_
  refine mg_pop C dL_law_210 rfl ?_
  refine mg_aload_n C dL_law_211 rfl ?_
  refine mg_aload_n C dL_law_212 rfl ?_
  refine mg_iload_n C dL_law_213 rfl ?_
  refine mg_iconst (v := 1) C dL_law_214 (by decide) ?_
  refine mg_iadd C dL_law_215 ?_
  refine mg_sld C hs (show vp_in (nI i + 1) L from lawin 1 (by omega) (by omega)) dL_law_216 ?_
  refine mg_aload_n C dL_law_217 rfl ?_
  refine mg_iload_n C dL_law_218 rfl ?_
  refine mg_iconst (v := 2) C dL_law_219 (by decide) ?_
  refine mg_iadd C dL_law_220 ?_
  refine mg_sld C hs (show vp_in (nI i + 2) L from lawin 2 (by omega) (by omega)) dL_law_221 ?_
  refine mg_aload_n C dL_law_222 rfl ?_
  refine mg_iload_n C dL_law_223 rfl ?_
  refine mg_iconst (v := 3) C dL_law_224 (by decide) ?_
  refine mg_iadd C dL_law_225 ?_
  refine mg_sld C hs (show vp_in (nI i + 3) L from lawin 3 (by omega) (by omega)) dL_law_226 ?_
  refine mg_callV C (mv_write E _ _ _ _ _ _ _ _ hM) oL_21 17 rfl rfl (rm_ok rfl (by omega) (by omega)) rfl rfl dL_law_227 (fun o2 w2 z2 => ?_)
  obtain ⟨ad2, g2, a2, v2, rfl, hS2, hM2, had2, rfl⟩ := z2
  refine mg_v ?_
  refine mg_ws (ws' := mw E ad2 g2 a2 v2 [] ++ cw E ad1 fl1 g1 a1 v1 []) rfl ?_
  refine mg_swap ?_
  refine mg_ws (ws' := cw E ad1 fl1 g1 a1 v1 (mw E ad2 g2 a2 v2 [])) rfl ?_
  refine mg_pop C dL_law_230 rfl ?_
  refine mg_goto C 823 dL_law_231 (by decide) ?_
  refine mg_widen' (k' := k + 1) (n' := n + 8000) (by omega) (by omega) ?_
  exact fin ad1 fl1 g1 a1 v1 ad2 g2 a2 v2 had1 had2 hC1 hM2 (hS1.two (hS) hS2)
set_option maxHeartbeats 400000 in
set_option maxRecDepth 100000 in
theorem law_c2 (E : En) (X : Fx) (b L x0 m0 : Nat) (xs : Nat → Int32) (C : Cx E X code 4 RL ret 8 288 600000 7302250) (hs : Sc X b L xs) (hL : L ≤ 100000) (i k n : Nat) (hi : i + 4 ≤ L) (hk : k + 1 ≤ 600000) (hn : n + 8000 ≤ 7302250) (fin : Nx E X b x0 m0 i (k + 1) (n + 8000) 823) : Nx E X b x0 m0 i k n 234 := by
  intro adc fl g a v adm gm am vm e1 e2 hC hM hS
  subst e1; subst e2
  refine mg_aload_n C dL_law_234 rfl ?_
  refine mg_aload_n C dL_law_235 rfl ?_
  refine mg_iload_n C dL_law_236 rfl ?_
  refine mg_iconst (v := 1) C dL_law_237 (by decide) ?_
  refine mg_iadd C dL_law_238 ?_
  refine mg_sld C hs (show vp_in (nI i + 1) L from lawin 1 (by omega) (by omega)) dL_law_239 ?_
  refine mg_aload_n C dL_law_240 rfl ?_
  refine mg_iload_n C dL_law_241 rfl ?_
  refine mg_iconst (v := 2) C dL_law_242 (by decide) ?_
  refine mg_iadd C dL_law_243 ?_
  refine mg_sld C hs (show vp_in (nI i + 2) L from lawin 2 (by omega) (by omega)) dL_law_244 ?_
  refine mg_aload_n C dL_law_245 rfl ?_
  refine mg_iload_n C dL_law_246 rfl ?_
  refine mg_iconst (v := 3) C dL_law_247 (by decide) ?_
  refine mg_iadd C dL_law_248 ?_
  refine mg_sld C hs (show vp_in (nI i + 3) L from lawin 3 (by omega) (by omega)) dL_law_249 ?_
  refine mg_callV C (cv_stick E _ _ _ _ _ _ _ _ _ hC) oL_22 19 rfl rfl (rm_ok rfl (by omega) (by omega)) rfl rfl dL_law_250 (fun o1 w1 z1 => ?_)
  obtain ⟨ad1, fl1, g1, a1, v1, rfl, hS1, hC1, had1, rfl⟩ := z1
  refine mg_v ?_
  refine mg_ws (ws' := cw E ad1 fl1 g1 a1 v1 [] ++ mw E adm gm am vm []) rfl ?_
  refine mg_swap ?_
  refine mg_ws (ws' := mw E adm gm am vm (cw E ad1 fl1 g1 a1 v1 [])) rfl ?_
  refine mg_pop C dL_law_253 rfl ?_
  refine mg_aload_n C dL_law_254 rfl ?_
  refine mg_aload_n C dL_law_255 rfl ?_
  refine mg_iload_n C dL_law_256 rfl ?_
  refine mg_iconst (v := 1) C dL_law_257 (by decide) ?_
  refine mg_iadd C dL_law_258 ?_
  refine mg_sld C hs (show vp_in (nI i + 1) L from lawin 1 (by omega) (by omega)) dL_law_259 ?_
  refine mg_aload_n C dL_law_260 rfl ?_
  refine mg_iload_n C dL_law_261 rfl ?_
  refine mg_iconst (v := 2) C dL_law_262 (by decide) ?_
  refine mg_iadd C dL_law_263 ?_
  refine mg_sld C hs (show vp_in (nI i + 2) L from lawin 2 (by omega) (by omega)) dL_law_264 ?_
  refine mg_aload_n C dL_law_265 rfl ?_
  refine mg_iload_n C dL_law_266 rfl ?_
  refine mg_iconst (v := 3) C dL_law_267 (by decide) ?_
  refine mg_iadd C dL_law_268 ?_
  refine mg_sld C hs (show vp_in (nI i + 3) L from lawin 3 (by omega) (by omega)) dL_law_269 ?_
  refine mg_callV C (mv_stick E _ _ _ _ _ _ _ _ hM) oL_25 17 rfl rfl (rm_ok rfl (by omega) (by omega)) rfl rfl dL_law_270 (fun o2 w2 z2 => ?_)
  obtain ⟨ad2, g2, a2, v2, rfl, hS2, hM2, had2, rfl⟩ := z2
  refine mg_v ?_
  refine mg_ws (ws' := mw E ad2 g2 a2 v2 [] ++ cw E ad1 fl1 g1 a1 v1 []) rfl ?_
  refine mg_swap ?_
  refine mg_ws (ws' := cw E ad1 fl1 g1 a1 v1 (mw E ad2 g2 a2 v2 [])) rfl ?_
  refine mg_pop C dL_law_273 rfl ?_
  refine mg_goto C 823 dL_law_274 (by decide) ?_
  refine mg_widen' (k' := k + 1) (n' := n + 8000) (by omega) (by omega) ?_
  exact fin ad1 fl1 g1 a1 v1 ad2 g2 a2 v2 had1 had2 hC1 hM2 (hS1.two (sh_stick hS _ _ _) hS2)
set_option maxHeartbeats 400000 in
set_option maxRecDepth 100000 in
theorem law_c3 (E : En) (X : Fx) (b L x0 m0 : Nat) (xs : Nat → Int32) (C : Cx E X code 4 RL ret 8 288 600000 7302250) (hs : Sc X b L xs) (hL : L ≤ 100000) (i k n : Nat) (hi : i + 4 ≤ L) (hk : k + 1 ≤ 600000) (hn : n + 8000 ≤ 7302250) (fin : Nx E X b x0 m0 i (k + 1) (n + 8000) 823) : Nx E X b x0 m0 i k n 277 := by
  intro adc fl g a v adm gm am vm e1 e2 hC hM hS
  subst e1; subst e2
  refine mg_aload_n C dL_law_277 rfl ?_
  refine mg_aload_n C dL_law_278 rfl ?_
  refine mg_iload_n C dL_law_279 rfl ?_
  refine mg_iconst (v := 1) C dL_law_280 (by decide) ?_
  refine mg_iadd C dL_law_281 ?_
  refine mg_sld C hs (show vp_in (nI i + 1) L from lawin 1 (by omega) (by omega)) dL_law_282 ?_
  refine mg_aload_n C dL_law_283 rfl ?_
  refine mg_iload_n C dL_law_284 rfl ?_
  refine mg_iconst (v := 2) C dL_law_285 (by decide) ?_
  refine mg_iadd C dL_law_286 ?_
  refine mg_sld C hs (show vp_in (nI i + 2) L from lawin 2 (by omega) (by omega)) dL_law_287 ?_
  refine mg_aload_n C dL_law_288 rfl ?_
  refine mg_iload_n C dL_law_289 rfl ?_
  refine mg_iconst (v := 3) C dL_law_290 (by decide) ?_
  refine mg_iadd C dL_law_291 ?_
  refine mg_sld C hs (show vp_in (nI i + 3) L from lawin 3 (by omega) (by omega)) dL_law_292 ?_
  refine mg_callV C (cv_cell E _ _ _ _ _ _ _ _ _ hC) oL_26 19 rfl rfl (rm_ok rfl (by omega) (by omega)) rfl rfl dL_law_293 (fun o1 w1 z1 => ?_)
  obtain ⟨r1, ad1, fl1, g1, a1, v1, rfl, hS1, hC1, had1, rfl⟩ := z1
  refine mg_v ?_
  refine mg_ws (ws' := cw E ad1 fl1 g1 a1 v1 [] ++ mw E adm gm am vm []) rfl ?_
  refine mg_swap ?_
  refine mg_ws (ws' := mw E adm gm am vm (cw E ad1 fl1 g1 a1 v1 [])) rfl ?_
  refine mg_pop C dL_law_296 rfl ?_
  refine mg_aload_n C dL_law_297 rfl ?_
  refine mg_aload_n C dL_law_298 rfl ?_
  refine mg_iload_n C dL_law_299 rfl ?_
  refine mg_iconst (v := 1) C dL_law_300 (by decide) ?_
  refine mg_iadd C dL_law_301 ?_
  refine mg_sld C hs (show vp_in (nI i + 1) L from lawin 1 (by omega) (by omega)) dL_law_302 ?_
  refine mg_aload_n C dL_law_303 rfl ?_
  refine mg_iload_n C dL_law_304 rfl ?_
  refine mg_iconst (v := 2) C dL_law_305 (by decide) ?_
  refine mg_iadd C dL_law_306 ?_
  refine mg_sld C hs (show vp_in (nI i + 2) L from lawin 2 (by omega) (by omega)) dL_law_307 ?_
  refine mg_aload_n C dL_law_308 rfl ?_
  refine mg_iload_n C dL_law_309 rfl ?_
  refine mg_iconst (v := 3) C dL_law_310 (by decide) ?_
  refine mg_iadd C dL_law_311 ?_
  refine mg_sld C hs (show vp_in (nI i + 3) L from lawin 3 (by omega) (by omega)) dL_law_312 ?_
  refine mg_callV C (mv_cell E _ _ _ _ _ _ _ _ hM) oL_29 17 rfl rfl (rm_ok rfl (by omega) (by omega)) rfl rfl dL_law_313 (fun o2 w2 z2 => ?_)
  obtain ⟨r2, ad2, g2, a2, v2, rfl, hS2, hM2, had2, rfl⟩ := z2
  refine mg_v ?_
  refine mg_ws (ws' := mw E ad2 g2 a2 v2 [] ++ cw E ad1 fl1 g1 a1 v1 []) rfl ?_
  refine mg_swap ?_
  refine mg_ws (ws' := cw E ad1 fl1 g1 a1 v1 (mw E ad2 g2 a2 v2 [])) rfl ?_
  refine mg_pop C dL_law_316 rfl ?_
  refine mg_goto C 823 dL_law_317 (by decide) ?_
  refine mg_widen' (k' := k + 1) (n' := n + 8000) (by omega) (by omega) ?_
  exact fin ad1 fl1 g1 a1 v1 ad2 g2 a2 v2 had1 had2 hC1 hM2 (hS1.two (hS) hS2)
set_option maxHeartbeats 400000 in
set_option maxRecDepth 100000 in
theorem law_c4 (E : En) (X : Fx) (b L x0 m0 : Nat) (xs : Nat → Int32) (C : Cx E X code 4 RL ret 8 288 600000 7302250) (hs : Sc X b L xs) (hL : L ≤ 100000) (i k n : Nat) (hi : i + 4 ≤ L) (hk : k + 1 ≤ 600000) (hn : n + 8000 ≤ 7302250) (fin : Nx E X b x0 m0 i (k + 1) (n + 8000) 823) : Nx E X b x0 m0 i k n 320 := by
  intro adc fl g a v adm gm am vm e1 e2 hC hM hS
  subst e1; subst e2
  refine mg_aload_n C dL_law_320 rfl ?_
  refine mg_aload_n C dL_law_321 rfl ?_
  refine mg_iload_n C dL_law_322 rfl ?_
  refine mg_iconst (v := 1) C dL_law_323 (by decide) ?_
  refine mg_iadd C dL_law_324 ?_
  refine mg_sld C hs (show vp_in (nI i + 1) L from lawin 1 (by omega) (by omega)) dL_law_325 ?_
  refine mg_aload_n C dL_law_326 rfl ?_
  refine mg_iload_n C dL_law_327 rfl ?_
  refine mg_iconst (v := 2) C dL_law_328 (by decide) ?_
  refine mg_iadd C dL_law_329 ?_
  refine mg_sld C hs (show vp_in (nI i + 2) L from lawin 2 (by omega) (by omega)) dL_law_330 ?_
  refine mg_callV C (cv_input E _ _ _ _ _ _ _ _ hC) oL_30 19 rfl rfl (rm_ok rfl (by omega) (by omega)) rfl rfl dL_law_331 (fun o1 w1 z1 => ?_)
  obtain ⟨ad1, fl1, g1, a1, v1, rfl, hS1, hC1, had1, rfl⟩ := z1
  refine mg_v ?_
  refine mg_ws (ws' := cw E ad1 fl1 g1 a1 v1 [] ++ mw E adm gm am vm []) rfl ?_
  refine mg_swap ?_
  refine mg_ws (ws' := mw E adm gm am vm (cw E ad1 fl1 g1 a1 v1 [])) rfl ?_
  refine mg_pop C dL_law_334 rfl ?_
  refine mg_aload_n C dL_law_335 rfl ?_
  refine mg_aload_n C dL_law_336 rfl ?_
  refine mg_iload_n C dL_law_337 rfl ?_
  refine mg_iconst (v := 1) C dL_law_338 (by decide) ?_
  refine mg_iadd C dL_law_339 ?_
  refine mg_sld C hs (show vp_in (nI i + 1) L from lawin 1 (by omega) (by omega)) dL_law_340 ?_
  refine mg_aload_n C dL_law_341 rfl ?_
  refine mg_iload_n C dL_law_342 rfl ?_
  refine mg_iconst (v := 2) C dL_law_343 (by decide) ?_
  refine mg_iadd C dL_law_344 ?_
  refine mg_sld C hs (show vp_in (nI i + 2) L from lawin 2 (by omega) (by omega)) dL_law_345 ?_
  refine mg_callV C (mv_input E _ _ _ _ _ _ _ hM) oL_34 17 rfl rfl (rm_ok rfl (by omega) (by omega)) rfl rfl dL_law_346 (fun o2 w2 z2 => ?_)
  obtain ⟨ad2, g2, a2, v2, rfl, hS2, hM2, had2, rfl⟩ := z2
  refine mg_v ?_
  refine mg_ws (ws' := mw E ad2 g2 a2 v2 [] ++ cw E ad1 fl1 g1 a1 v1 []) rfl ?_
  refine mg_swap ?_
  refine mg_ws (ws' := cw E ad1 fl1 g1 a1 v1 (mw E ad2 g2 a2 v2 [])) rfl ?_
  refine mg_pop C dL_law_349 rfl ?_
  refine mg_goto C 823 dL_law_350 (by decide) ?_
  refine mg_widen' (k' := k + 1) (n' := n + 8000) (by omega) (by omega) ?_
  exact fin ad1 fl1 g1 a1 v1 ad2 g2 a2 v2 had1 had2 hC1 hM2 (hS1.two (sh_input hS _ _) hS2)
set_option maxHeartbeats 400000 in
set_option maxRecDepth 100000 in
theorem law_c5 (E : En) (X : Fx) (b L x0 m0 : Nat) (xs : Nat → Int32) (C : Cx E X code 4 RL ret 8 288 600000 7302250) (hs : Sc X b L xs) (hL : L ≤ 100000) (i k n : Nat) (hi : i + 4 ≤ L) (hk : k + 1 ≤ 600000) (hn : n + 8000 ≤ 7302250) (fin : Nx E X b x0 m0 i (k + 1) (n + 8000) 823) : Nx E X b x0 m0 i k n 353 := by
  intro adc fl g a v adm gm am vm e1 e2 hC hM hS
  subst e1; subst e2
  refine mg_aload_n C dL_law_353 rfl ?_
  refine mg_aload_n C dL_law_354 rfl ?_
  refine mg_iload_n C dL_law_355 rfl ?_
  refine mg_iconst (v := 1) C dL_law_356 (by decide) ?_
  refine mg_iadd C dL_law_357 ?_
  refine mg_sld C hs (show vp_in (nI i + 1) L from lawin 1 (by omega) (by omega)) dL_law_358 ?_
  refine mg_callV C (cv_bits E _ _ _ _ _ _ _ hC) oL_35 19 rfl rfl (rm_ok rfl (by omega) (by omega)) rfl rfl dL_law_359 (fun o1 w1 z1 => ?_)
  obtain ⟨ad1, fl1, g1, a1, v1, rfl, hS1, hC1, had1, rfl⟩ := z1
  refine mg_v ?_
  refine mg_ws (ws' := cw E ad1 fl1 g1 a1 v1 [] ++ mw E adm gm am vm []) rfl ?_
  refine mg_swap ?_
  refine mg_ws (ws' := mw E adm gm am vm (cw E ad1 fl1 g1 a1 v1 [])) rfl ?_
  refine mg_pop C dL_law_362 rfl ?_
  refine mg_aload_n C dL_law_363 rfl ?_
  refine mg_aload_n C dL_law_364 rfl ?_
  refine mg_iload_n C dL_law_365 rfl ?_
  refine mg_iconst (v := 1) C dL_law_366 (by decide) ?_
  refine mg_iadd C dL_law_367 ?_
  refine mg_sld C hs (show vp_in (nI i + 1) L from lawin 1 (by omega) (by omega)) dL_law_368 ?_
  refine mg_callV C (mv_bits E _ _ _ _ _ _ hM) oL_39 17 rfl rfl (rm_ok rfl (by omega) (by omega)) rfl rfl dL_law_369 (fun o2 w2 z2 => ?_)
  obtain ⟨ad2, g2, a2, v2, rfl, hS2, hM2, had2, rfl⟩ := z2
  refine mg_v ?_
  refine mg_ws (ws' := mw E ad2 g2 a2 v2 [] ++ cw E ad1 fl1 g1 a1 v1 []) rfl ?_
  refine mg_swap ?_
  refine mg_ws (ws' := cw E ad1 fl1 g1 a1 v1 (mw E ad2 g2 a2 v2 [])) rfl ?_
  refine mg_pop C dL_law_372 rfl ?_
  refine mg_goto C 823 dL_law_373 (by decide) ?_
  refine mg_widen' (k' := k + 1) (n' := n + 8000) (by omega) (by omega) ?_
  exact fin ad1 fl1 g1 a1 v1 ad2 g2 a2 v2 had1 had2 hC1 hM2 (hS1.two (sh_bits hS _) hS2)
set_option maxHeartbeats 400000 in
set_option maxRecDepth 100000 in
theorem law_c6 (E : En) (X : Fx) (b L x0 m0 : Nat) (xs : Nat → Int32) (C : Cx E X code 4 RL ret 8 288 600000 7302250) (hs : Sc X b L xs) (hL : L ≤ 100000) (i k n : Nat) (hi : i + 4 ≤ L) (hk : k + 1 ≤ 600000) (hn : n + 8000 ≤ 7302250) (fin : Nx E X b x0 m0 i (k + 1) (n + 8000) 823) : Nx E X b x0 m0 i k n 376 := by
  intro adc fl g a v adm gm am vm e1 e2 hC hM hS
  subst e1; subst e2
  refine mg_aload_n C dL_law_376 rfl ?_
  refine mg_aload_n C dL_law_377 rfl ?_
  refine mg_iload_n C dL_law_378 rfl ?_
  refine mg_iconst (v := 1) C dL_law_379 (by decide) ?_
  refine mg_iadd C dL_law_380 ?_
  refine mg_sld C hs (show vp_in (nI i + 1) L from lawin 1 (by omega) (by omega)) dL_law_381 ?_
  refine mg_callV C (cv_sum E _ _ _ _ _ _ _ hC) oL_40 19 rfl rfl (rm_ok rfl (by omega) (by omega)) rfl rfl dL_law_382 (fun o1 w1 z1 => ?_)
  obtain ⟨r1, ad1, fl1, g1, a1, v1, rfl, hS1, hC1, had1, rfl⟩ := z1
  refine mg_v ?_
  refine mg_ws (ws' := cw E ad1 fl1 g1 a1 v1 [] ++ mw E adm gm am vm []) rfl ?_
  refine mg_swap ?_
  refine mg_ws (ws' := mw E adm gm am vm (cw E ad1 fl1 g1 a1 v1 [])) rfl ?_
  refine mg_pop C dL_law_385 rfl ?_
  refine mg_aload_n C dL_law_386 rfl ?_
  refine mg_aload_n C dL_law_387 rfl ?_
  refine mg_iload_n C dL_law_388 rfl ?_
  refine mg_iconst (v := 1) C dL_law_389 (by decide) ?_
  refine mg_iadd C dL_law_390 ?_
  refine mg_sld C hs (show vp_in (nI i + 1) L from lawin 1 (by omega) (by omega)) dL_law_391 ?_
  refine mg_callV C (mv_sum E _ _ _ _ _ _ hM) oL_43 17 rfl rfl (rm_ok rfl (by omega) (by omega)) rfl rfl dL_law_392 (fun o2 w2 z2 => ?_)
  obtain ⟨r2, ad2, g2, a2, v2, rfl, hS2, hM2, had2, rfl⟩ := z2
  refine mg_v ?_
  refine mg_ws (ws' := mw E ad2 g2 a2 v2 [] ++ cw E ad1 fl1 g1 a1 v1 []) rfl ?_
  refine mg_swap ?_
  refine mg_ws (ws' := cw E ad1 fl1 g1 a1 v1 (mw E ad2 g2 a2 v2 [])) rfl ?_
  refine mg_pop C dL_law_395 rfl ?_
  refine mg_goto C 823 dL_law_396 (by decide) ?_
  refine mg_widen' (k' := k + 1) (n' := n + 8000) (by omega) (by omega) ?_
  exact fin ad1 fl1 g1 a1 v1 ad2 g2 a2 v2 had1 had2 hC1 hM2 (hS1.two (hS) hS2)
set_option maxHeartbeats 400000 in
set_option maxRecDepth 100000 in
theorem law_c7 (E : En) (X : Fx) (b L x0 m0 : Nat) (xs : Nat → Int32) (C : Cx E X code 4 RL ret 8 288 600000 7302250) (hs : Sc X b L xs) (hL : L ≤ 100000) (i k n : Nat) (hi : i + 4 ≤ L) (hk : k + 1 ≤ 600000) (hn : n + 8000 ≤ 7302250) (fin : Nx E X b x0 m0 i (k + 1) (n + 8000) 823) : Nx E X b x0 m0 i k n 399 := by
  intro adc fl g a v adm gm am vm e1 e2 hC hM hS
  subst e1; subst e2
  refine mg_aload_n C dL_law_399 rfl ?_
  refine mg_aload_n C dL_law_400 rfl ?_
  refine mg_iload_n C dL_law_401 rfl ?_
  refine mg_iconst (v := 1) C dL_law_402 (by decide) ?_
  refine mg_iadd C dL_law_403 ?_
  refine mg_sld C hs (show vp_in (nI i + 1) L from lawin 1 (by omega) (by omega)) dL_law_404 ?_
  refine mg_aload_n C dL_law_405 rfl ?_
  refine mg_iload_n C dL_law_406 rfl ?_
  refine mg_iconst (v := 2) C dL_law_407 (by decide) ?_
  refine mg_iadd C dL_law_408 ?_
  refine mg_sld C hs (show vp_in (nI i + 2) L from lawin 2 (by omega) (by omega)) dL_law_409 ?_
  refine mg_aload_n C dL_law_410 rfl ?_
  refine mg_iload_n C dL_law_411 rfl ?_
  refine mg_iconst (v := 3) C dL_law_412 (by decide) ?_
  refine mg_iadd C dL_law_413 ?_
  refine mg_sld C hs (show vp_in (nI i + 3) L from lawin 3 (by omega) (by omega)) dL_law_414 ?_
  refine mg_callV C (cv_table E _ _ _ _ _ _ _ _ _ hC) oL_44 19 rfl rfl (rm_ok rfl (by omega) (by omega)) rfl rfl dL_law_415 (fun o1 w1 z1 => ?_)
  obtain ⟨ad1, fl1, g1, a1, v1, rfl, hS1, hC1, had1, rfl⟩ := z1
  refine mg_v ?_
  refine mg_ws (ws' := cw E ad1 fl1 g1 a1 v1 [] ++ mw E adm gm am vm []) rfl ?_
  refine mg_swap ?_
  refine mg_ws (ws' := mw E adm gm am vm (cw E ad1 fl1 g1 a1 v1 [])) rfl ?_
  refine mg_pop C dL_law_418 rfl ?_
  refine mg_aload_n C dL_law_419 rfl ?_
  refine mg_aload_n C dL_law_420 rfl ?_
  refine mg_iload_n C dL_law_421 rfl ?_
  refine mg_iconst (v := 1) C dL_law_422 (by decide) ?_
  refine mg_iadd C dL_law_423 ?_
  refine mg_sld C hs (show vp_in (nI i + 1) L from lawin 1 (by omega) (by omega)) dL_law_424 ?_
  refine mg_aload_n C dL_law_425 rfl ?_
  refine mg_iload_n C dL_law_426 rfl ?_
  refine mg_iconst (v := 2) C dL_law_427 (by decide) ?_
  refine mg_iadd C dL_law_428 ?_
  refine mg_sld C hs (show vp_in (nI i + 2) L from lawin 2 (by omega) (by omega)) dL_law_429 ?_
  refine mg_aload_n C dL_law_430 rfl ?_
  refine mg_iload_n C dL_law_431 rfl ?_
  refine mg_iconst (v := 3) C dL_law_432 (by decide) ?_
  refine mg_iadd C dL_law_433 ?_
  refine mg_sld C hs (show vp_in (nI i + 3) L from lawin 3 (by omega) (by omega)) dL_law_434 ?_
  refine mg_callV C (mv_table E _ _ _ _ _ _ _ _ hM) oL_47 17 rfl rfl (rm_ok rfl (by omega) (by omega)) rfl rfl dL_law_435 (fun o2 w2 z2 => ?_)
  obtain ⟨ad2, g2, a2, v2, rfl, hS2, hM2, had2, rfl⟩ := z2
  refine mg_v ?_
  refine mg_ws (ws' := mw E ad2 g2 a2 v2 [] ++ cw E ad1 fl1 g1 a1 v1 []) rfl ?_
  refine mg_swap ?_
  refine mg_ws (ws' := cw E ad1 fl1 g1 a1 v1 (mw E ad2 g2 a2 v2 [])) rfl ?_
  refine mg_pop C dL_law_438 rfl ?_
  refine mg_goto C 823 dL_law_439 (by decide) ?_
  refine mg_widen' (k' := k + 1) (n' := n + 8000) (by omega) (by omega) ?_
  exact fin ad1 fl1 g1 a1 v1 ad2 g2 a2 v2 had1 had2 hC1 hM2 (hS1.two (sh_table hS _ _ _) hS2)
set_option maxHeartbeats 400000 in
set_option maxRecDepth 100000 in
theorem law_c8 (E : En) (X : Fx) (b L x0 m0 : Nat) (xs : Nat → Int32) (C : Cx E X code 4 RL ret 8 288 600000 7302250) (hs : Sc X b L xs) (hL : L ≤ 100000) (i k n : Nat) (hi : i + 4 ≤ L) (hk : k + 1 ≤ 600000) (hn : n + 8000 ≤ 7302250) (fin : Nx E X b x0 m0 i (k + 1) (n + 8000) 823) : Nx E X b x0 m0 i k n 442 := by
  intro adc fl g a v adm gm am vm e1 e2 hC hM hS
  subst e1; subst e2
  refine mg_aload_n C dL_law_442 rfl ?_
  refine mg_aload_n C dL_law_443 rfl ?_
  refine mg_iload_n C dL_law_444 rfl ?_
  refine mg_iconst (v := 1) C dL_law_445 (by decide) ?_
  refine mg_iadd C dL_law_446 ?_
  refine mg_sld C hs (show vp_in (nI i + 1) L from lawin 1 (by omega) (by omega)) dL_law_447 ?_
  refine mg_aload_n C dL_law_448 rfl ?_
  refine mg_iload_n C dL_law_449 rfl ?_
  refine mg_iconst (v := 2) C dL_law_450 (by decide) ?_
  refine mg_iadd C dL_law_451 ?_
  refine mg_sld C hs (show vp_in (nI i + 2) L from lawin 2 (by omega) (by omega)) dL_law_452 ?_
  refine mg_aload_n C dL_law_453 rfl ?_
  refine mg_iload_n C dL_law_454 rfl ?_
  refine mg_iconst (v := 3) C dL_law_455 (by decide) ?_
  refine mg_iadd C dL_law_456 ?_
  refine mg_sld C hs (show vp_in (nI i + 3) L from lawin 3 (by omega) (by omega)) dL_law_457 ?_
  refine mg_callV C (cv_number E _ _ _ _ _ _ _ _ _ hC) oL_48 19 rfl rfl (rm_ok rfl (by omega) (by omega)) rfl rfl dL_law_458 (fun o1 w1 z1 => ?_)
  obtain ⟨ad1, fl1, g1, a1, v1, rfl, hS1, hC1, had1, rfl⟩ := z1
  refine mg_v ?_
  refine mg_ws (ws' := cw E ad1 fl1 g1 a1 v1 [] ++ mw E adm gm am vm []) rfl ?_
  refine mg_swap ?_
  refine mg_ws (ws' := mw E adm gm am vm (cw E ad1 fl1 g1 a1 v1 [])) rfl ?_
  refine mg_pop C dL_law_461 rfl ?_
  refine mg_aload_n C dL_law_462 rfl ?_
  refine mg_aload_n C dL_law_463 rfl ?_
  refine mg_iload_n C dL_law_464 rfl ?_
  refine mg_iconst (v := 1) C dL_law_465 (by decide) ?_
  refine mg_iadd C dL_law_466 ?_
  refine mg_sld C hs (show vp_in (nI i + 1) L from lawin 1 (by omega) (by omega)) dL_law_467 ?_
  refine mg_aload_n C dL_law_468 rfl ?_
  refine mg_iload_n C dL_law_469 rfl ?_
  refine mg_iconst (v := 2) C dL_law_470 (by decide) ?_
  refine mg_iadd C dL_law_471 ?_
  refine mg_sld C hs (show vp_in (nI i + 2) L from lawin 2 (by omega) (by omega)) dL_law_472 ?_
  refine mg_aload_n C dL_law_473 rfl ?_
  refine mg_iload_n C dL_law_474 rfl ?_
  refine mg_iconst (v := 3) C dL_law_475 (by decide) ?_
  refine mg_iadd C dL_law_476 ?_
  refine mg_sld C hs (show vp_in (nI i + 3) L from lawin 3 (by omega) (by omega)) dL_law_477 ?_
  refine mg_callV C (mv_number E _ _ _ _ _ _ _ _ hM) oL_51 17 rfl rfl (rm_ok rfl (by omega) (by omega)) rfl rfl dL_law_478 (fun o2 w2 z2 => ?_)
  obtain ⟨ad2, g2, a2, v2, rfl, hS2, hM2, had2, rfl⟩ := z2
  refine mg_v ?_
  refine mg_ws (ws' := mw E ad2 g2 a2 v2 [] ++ cw E ad1 fl1 g1 a1 v1 []) rfl ?_
  refine mg_swap ?_
  refine mg_ws (ws' := cw E ad1 fl1 g1 a1 v1 (mw E ad2 g2 a2 v2 [])) rfl ?_
  refine mg_pop C dL_law_481 rfl ?_
  refine mg_goto C 823 dL_law_482 (by decide) ?_
  refine mg_widen' (k' := k + 1) (n' := n + 8000) (by omega) (by omega) ?_
  exact fin ad1 fl1 g1 a1 v1 ad2 g2 a2 v2 had1 had2 hC1 hM2 (hS1.two (sh_num hS _ _ _) hS2)
set_option maxHeartbeats 400000 in
set_option maxRecDepth 100000 in
theorem law_c9 (E : En) (X : Fx) (b L x0 m0 : Nat) (xs : Nat → Int32) (C : Cx E X code 4 RL ret 8 288 600000 7302250) (hs : Sc X b L xs) (hL : L ≤ 100000) (i k n : Nat) (hi : i + 4 ≤ L) (hk : k + 1 ≤ 600000) (hn : n + 8000 ≤ 7302250) (fin : Nx E X b x0 m0 i (k + 1) (n + 8000) 823) : Nx E X b x0 m0 i k n 485 := by
  intro adc fl g a v adm gm am vm e1 e2 hC hM hS
  subst e1; subst e2
  refine mg_aload_n C dL_law_485 rfl ?_
  refine mg_callV C (cv_lay E _ _ _ _ _ _ hC) oL_52 19 rfl rfl (rm_ok rfl (by omega) (by omega)) rfl rfl dL_law_486 (fun o1 w1 z1 => ?_)
  obtain ⟨r1, ad1, fl1, g1, a1, v1, rfl, hS1, hC1, had1, rfl⟩ := z1
  refine mg_v ?_
  refine mg_ws (ws' := cw E ad1 fl1 g1 a1 v1 [] ++ mw E adm gm am vm []) rfl ?_
  refine mg_swap ?_
  refine mg_ws (ws' := mw E adm gm am vm (cw E ad1 fl1 g1 a1 v1 [])) rfl ?_
  refine mg_pop C dL_law_489 rfl ?_
  refine mg_aload_n C dL_law_490 rfl ?_
  refine mg_callV C (mv_lay E _ _ _ _ _ hM) oL_56 17 rfl rfl (rm_ok rfl (by omega) (by omega)) rfl rfl dL_law_491 (fun o2 w2 z2 => ?_)
  obtain ⟨r2, ad2, g2, a2, v2, rfl, hS2, hM2, had2, rfl⟩ := z2
  refine mg_v ?_
  refine mg_ws (ws' := mw E ad2 g2 a2 v2 [] ++ cw E ad1 fl1 g1 a1 v1 []) rfl ?_
  refine mg_swap ?_
  refine mg_ws (ws' := cw E ad1 fl1 g1 a1 v1 (mw E ad2 g2 a2 v2 [])) rfl ?_
  refine mg_pop C dL_law_494 rfl ?_
  refine mg_goto C 823 dL_law_495 (by decide) ?_
  refine mg_widen' (k' := k + 1) (n' := n + 8000) (by omega) (by omega) ?_
  exact fin ad1 fl1 g1 a1 v1 ad2 g2 a2 v2 had1 had2 hC1 hM2 (hS1.two (sh_lay hS) hS2)
set_option maxHeartbeats 400000 in
set_option maxRecDepth 100000 in
theorem law_c10 (E : En) (X : Fx) (b L x0 m0 : Nat) (xs : Nat → Int32) (C : Cx E X code 4 RL ret 8 288 600000 7302250) (hs : Sc X b L xs) (hL : L ≤ 100000) (i k n : Nat) (hi : i + 4 ≤ L) (hk : k + 1 ≤ 600000) (hn : n + 8000 ≤ 7302250) (fin : Nx E X b x0 m0 i (k + 1) (n + 8000) 823) : Nx E X b x0 m0 i k n 498 := by
  intro adc fl g a v adm gm am vm e1 e2 hC hM hS
  subst e1; subst e2
  refine mg_aload_n C dL_law_498 rfl ?_
  refine mg_aload_n C dL_law_499 rfl ?_
  refine mg_iload_n C dL_law_500 rfl ?_
  refine mg_iconst (v := 1) C dL_law_501 (by decide) ?_
  refine mg_iadd C dL_law_502 ?_
  refine mg_sld C hs (show vp_in (nI i + 1) L from lawin 1 (by omega) (by omega)) dL_law_503 ?_
  refine mg_callV C (cv_product E _ _ _ _ _ _ _ hC) oL_57 19 rfl rfl (rm_ok rfl (by omega) (by omega)) rfl rfl dL_law_504 (fun o1 w1 z1 => ?_)
  obtain ⟨r1, ad1, fl1, g1, a1, v1, rfl, hS1, hC1, had1, rfl⟩ := z1
  refine mg_v ?_
  refine mg_ws (ws' := cw E ad1 fl1 g1 a1 v1 [] ++ mw E adm gm am vm []) rfl ?_
  refine mg_swap ?_
  refine mg_ws (ws' := mw E adm gm am vm (cw E ad1 fl1 g1 a1 v1 [])) rfl ?_
  refine mg_pop2 C dL_law_507 rfl ?_
  refine mg_aload_n C dL_law_508 rfl ?_
  refine mg_aload_n C dL_law_509 rfl ?_
  refine mg_iload_n C dL_law_510 rfl ?_
  refine mg_iconst (v := 1) C dL_law_511 (by decide) ?_
  refine mg_iadd C dL_law_512 ?_
  refine mg_sld C hs (show vp_in (nI i + 1) L from lawin 1 (by omega) (by omega)) dL_law_513 ?_
  refine mg_callV C (mv_product E _ _ _ _ _ _ hM) oL_61 17 rfl rfl (rm_ok rfl (by omega) (by omega)) rfl rfl dL_law_514 (fun o2 w2 z2 => ?_)
  obtain ⟨r2, ad2, g2, a2, v2, rfl, hS2, hM2, had2, rfl⟩ := z2
  refine mg_v ?_
  refine mg_ws (ws' := mw E ad2 g2 a2 v2 [] ++ cw E ad1 fl1 g1 a1 v1 []) rfl ?_
  refine mg_swap ?_
  refine mg_ws (ws' := cw E ad1 fl1 g1 a1 v1 (mw E ad2 g2 a2 v2 [])) rfl ?_
  refine mg_pop2 C dL_law_517 rfl ?_
  refine mg_goto C 823 dL_law_518 (by decide) ?_
  refine mg_widen' (k' := k + 1) (n' := n + 8000) (by omega) (by omega) ?_
  exact fin ad1 fl1 g1 a1 v1 ad2 g2 a2 v2 had1 had2 hC1 hM2 (hS1.two (hS) hS2)
set_option maxHeartbeats 400000 in
set_option maxRecDepth 100000 in
theorem law_c11 (E : En) (X : Fx) (b L x0 m0 : Nat) (xs : Nat → Int32) (C : Cx E X code 4 RL ret 8 288 600000 7302250) (hs : Sc X b L xs) (hL : L ≤ 100000) (i k n : Nat) (hi : i + 4 ≤ L) (hk : k + 1 ≤ 600000) (hn : n + 8000 ≤ 7302250) (fin : Nx E X b x0 m0 i (k + 1) (n + 8000) 823) : Nx E X b x0 m0 i k n 521 := by
  intro adc fl g a v adm gm am vm e1 e2 hC hM hS
  subst e1; subst e2
  refine mg_aload_n C dL_law_521 rfl ?_
  refine mg_aload_n C dL_law_522 rfl ?_
  refine mg_iload_n C dL_law_523 rfl ?_
  refine mg_iconst (v := 1) C dL_law_524 (by decide) ?_
  refine mg_iadd C dL_law_525 ?_
  refine mg_sld C hs (show vp_in (nI i + 1) L from lawin 1 (by omega) (by omega)) dL_law_526 ?_
  refine mg_callV C (cv_due E _ _ _ _ _ _ _ hC) oL_62 19 rfl rfl (rm_ok rfl (by omega) (by omega)) rfl rfl dL_law_527 (fun o1 w1 z1 => ?_)
  obtain ⟨ad1, fl1, g1, a1, v1, rfl, hS1, hC1, had1, rfl⟩ := z1
  refine mg_v ?_
  refine mg_ws (ws' := cw E ad1 fl1 g1 a1 v1 [] ++ mw E adm gm am vm []) rfl ?_
  refine mg_swap ?_
  refine mg_ws (ws' := mw E adm gm am vm (cw E ad1 fl1 g1 a1 v1 [])) rfl ?_
  refine mg_pop2 C dL_law_530 rfl ?_
  refine mg_aload_n C dL_law_531 rfl ?_
  refine mg_aload_n C dL_law_532 rfl ?_
  refine mg_iload_n C dL_law_533 rfl ?_
  refine mg_iconst (v := 1) C dL_law_534 (by decide) ?_
  refine mg_iadd C dL_law_535 ?_
  refine mg_sld C hs (show vp_in (nI i + 1) L from lawin 1 (by omega) (by omega)) dL_law_536 ?_
  refine mg_callV C (mv_due E _ _ _ _ _ _ hM) oL_65 17 rfl rfl (rm_ok rfl (by omega) (by omega)) rfl rfl dL_law_537 (fun o2 w2 z2 => ?_)
  obtain ⟨ad2, g2, a2, v2, rfl, hS2, hM2, had2, rfl⟩ := z2
  refine mg_v ?_
  refine mg_ws (ws' := mw E ad2 g2 a2 v2 [] ++ cw E ad1 fl1 g1 a1 v1 []) rfl ?_
  refine mg_swap ?_
  refine mg_ws (ws' := cw E ad1 fl1 g1 a1 v1 (mw E ad2 g2 a2 v2 [])) rfl ?_
  refine mg_pop2 C dL_law_540 rfl ?_
  refine mg_goto C 823 dL_law_541 (by decide) ?_
  refine mg_widen' (k' := k + 1) (n' := n + 8000) (by omega) (by omega) ?_
  exact fin ad1 fl1 g1 a1 v1 ad2 g2 a2 v2 had1 had2 hC1 hM2 (hS1.two (hS) hS2)
set_option maxHeartbeats 400000 in
set_option maxRecDepth 100000 in
theorem law_c12 (E : En) (X : Fx) (b L x0 m0 : Nat) (xs : Nat → Int32) (C : Cx E X code 4 RL ret 8 288 600000 7302250) (hs : Sc X b L xs) (hL : L ≤ 100000) (i k n : Nat) (hi : i + 4 ≤ L) (hk : k + 1 ≤ 600000) (hn : n + 8000 ≤ 7302250) (fin : Nx E X b x0 m0 i (k + 1) (n + 8000) 823) : Nx E X b x0 m0 i k n 544 := by
  intro adc fl g a v adm gm am vm e1 e2 hC hM hS
  subst e1; subst e2
  refine mg_aload_n C dL_law_544 rfl ?_
  refine mg_callV C (cv_enough E _ _ _ _ _ _ hC) oL_66 19 rfl rfl (rm_ok rfl (by omega) (by omega)) rfl rfl dL_law_545 (fun o1 w1 z1 => ?_)
  obtain ⟨ad1, fl1, g1, a1, v1, rfl, hS1, hC1, had1, rfl⟩ := z1
  refine mg_v ?_
  refine mg_ws (ws' := cw E ad1 fl1 g1 a1 v1 [] ++ mw E adm gm am vm []) rfl ?_
  refine mg_swap ?_
  refine mg_ws (ws' := mw E adm gm am vm (cw E ad1 fl1 g1 a1 v1 [])) rfl ?_
  refine mg_pop C dL_law_548 rfl ?_
  refine mg_aload_n C dL_law_549 rfl ?_
  refine mg_callV C (mv_enough E _ _ _ _ _ hM) oL_69 17 rfl rfl (rm_ok rfl (by omega) (by omega)) rfl rfl dL_law_550 (fun o2 w2 z2 => ?_)
  obtain ⟨ad2, g2, a2, v2, rfl, hS2, hM2, had2, rfl⟩ := z2
  refine mg_v ?_
  refine mg_ws (ws' := mw E ad2 g2 a2 v2 [] ++ cw E ad1 fl1 g1 a1 v1 []) rfl ?_
  refine mg_swap ?_
  refine mg_ws (ws' := cw E ad1 fl1 g1 a1 v1 (mw E ad2 g2 a2 v2 [])) rfl ?_
  refine mg_pop C dL_law_553 rfl ?_
  refine mg_goto C 823 dL_law_554 (by decide) ?_
  refine mg_widen' (k' := k + 1) (n' := n + 8000) (by omega) (by omega) ?_
  exact fin ad1 fl1 g1 a1 v1 ad2 g2 a2 v2 had1 had2 hC1 hM2 (hS1.two (hS) hS2)
set_option maxHeartbeats 400000 in
set_option maxRecDepth 100000 in
theorem law_c13 (E : En) (X : Fx) (b L x0 m0 : Nat) (xs : Nat → Int32) (C : Cx E X code 4 RL ret 8 288 600000 7302250) (hs : Sc X b L xs) (hL : L ≤ 100000) (i k n : Nat) (hi : i + 4 ≤ L) (hk : k + 1 ≤ 600000) (hn : n + 8000 ≤ 7302250) (fin : Nx E X b x0 m0 i (k + 1) (n + 8000) 823) : Nx E X b x0 m0 i k n 557 := by
  intro adc fl g a v adm gm am vm e1 e2 hC hM hS
  subst e1; subst e2
  refine mg_aload_n C dL_law_557 rfl ?_
  refine mg_callV C (cv_map E _ _ _ _ _ _ hC) oL_70 19 rfl rfl (rm_ok rfl (by omega) (by omega)) rfl rfl dL_law_558 (fun o1 w1 z1 => ?_)
  obtain ⟨r1, ad1, fl1, g1, a1, v1, rfl, hS1, hC1, had1, rfl⟩ := z1
  refine mg_v ?_
  refine mg_ws (ws' := cw E ad1 fl1 g1 a1 v1 [] ++ mw E adm gm am vm []) rfl ?_
  refine mg_swap ?_
  refine mg_ws (ws' := mw E adm gm am vm (cw E ad1 fl1 g1 a1 v1 [])) rfl ?_
  refine mg_pop C dL_law_561 rfl ?_
  refine mg_aload_n C dL_law_562 rfl ?_
  refine mg_callV C (mv_map E _ _ _ _ _ hM) oL_73 17 rfl rfl (rm_ok rfl (by omega) (by omega)) rfl rfl dL_law_563 (fun o2 w2 z2 => ?_)
  obtain ⟨r2, ad2, g2, a2, v2, rfl, hS2, hM2, had2, rfl⟩ := z2
  refine mg_v ?_
  refine mg_ws (ws' := mw E ad2 g2 a2 v2 [] ++ cw E ad1 fl1 g1 a1 v1 []) rfl ?_
  refine mg_swap ?_
  refine mg_ws (ws' := cw E ad1 fl1 g1 a1 v1 (mw E ad2 g2 a2 v2 [])) rfl ?_
  refine mg_pop C dL_law_566 rfl ?_
  refine mg_goto C 823 dL_law_567 (by decide) ?_
  refine mg_widen' (k' := k + 1) (n' := n + 8000) (by omega) (by omega) ?_
  exact fin ad1 fl1 g1 a1 v1 ad2 g2 a2 v2 had1 had2 hC1 hM2 (hS1.two (hS) hS2)
set_option maxHeartbeats 400000 in
set_option maxRecDepth 100000 in
theorem law_c14 (E : En) (X : Fx) (b L x0 m0 : Nat) (xs : Nat → Int32) (C : Cx E X code 4 RL ret 8 288 600000 7302250) (hs : Sc X b L xs) (hL : L ≤ 100000) (i k n : Nat) (hi : i + 4 ≤ L) (hk : k + 1 ≤ 600000) (hn : n + 8000 ≤ 7302250) (fin : Nx E X b x0 m0 i (k + 1) (n + 8000) 823) : Nx E X b x0 m0 i k n 570 := by
  intro adc fl g a v adm gm am vm e1 e2 hC hM hS
  subst e1; subst e2
  refine mg_aload_n C dL_law_570 rfl ?_
  refine mg_aload_n C dL_law_571 rfl ?_
  refine mg_iload_n C dL_law_572 rfl ?_
  refine mg_iconst (v := 1) C dL_law_573 (by decide) ?_
  refine mg_iadd C dL_law_574 ?_
  refine mg_sld C hs (show vp_in (nI i + 1) L from lawin 1 (by omega) (by omega)) dL_law_575 ?_
  refine mg_callV C (cv_mapped E _ _ _ _ _ _ _ hC) oL_74 19 rfl rfl (rm_ok rfl (by omega) (by omega)) rfl rfl dL_law_576 (fun o1 w1 z1 => ?_)
  obtain ⟨r1, ad1, fl1, g1, a1, v1, rfl, hS1, hC1, had1, rfl⟩ := z1
  refine mg_v ?_
  refine mg_ws (ws' := cw E ad1 fl1 g1 a1 v1 [] ++ mw E adm gm am vm []) rfl ?_
  refine mg_swap ?_
  refine mg_ws (ws' := mw E adm gm am vm (cw E ad1 fl1 g1 a1 v1 [])) rfl ?_
  refine mg_pop C dL_law_579 rfl ?_
  refine mg_aload_n C dL_law_580 rfl ?_
  refine mg_aload_n C dL_law_581 rfl ?_
  refine mg_iload_n C dL_law_582 rfl ?_
  refine mg_iconst (v := 1) C dL_law_583 (by decide) ?_
  refine mg_iadd C dL_law_584 ?_
  refine mg_sld C hs (show vp_in (nI i + 1) L from lawin 1 (by omega) (by omega)) dL_law_585 ?_
  refine mg_callV C (mv_mapped E _ _ _ _ _ _ hM) oL_77 17 rfl rfl (rm_ok rfl (by omega) (by omega)) rfl rfl dL_law_586 (fun o2 w2 z2 => ?_)
  obtain ⟨r2, ad2, g2, a2, v2, rfl, hS2, hM2, had2, rfl⟩ := z2
  refine mg_v ?_
  refine mg_ws (ws' := mw E ad2 g2 a2 v2 [] ++ cw E ad1 fl1 g1 a1 v1 []) rfl ?_
  refine mg_swap ?_
  refine mg_ws (ws' := cw E ad1 fl1 g1 a1 v1 (mw E ad2 g2 a2 v2 [])) rfl ?_
  refine mg_pop C dL_law_589 rfl ?_
  refine mg_goto C 823 dL_law_590 (by decide) ?_
  refine mg_widen' (k' := k + 1) (n' := n + 8000) (by omega) (by omega) ?_
  exact fin ad1 fl1 g1 a1 v1 ad2 g2 a2 v2 had1 had2 hC1 hM2 (hS1.two (hS) hS2)
set_option maxHeartbeats 400000 in
set_option maxRecDepth 100000 in
theorem law_c15 (E : En) (X : Fx) (b L x0 m0 : Nat) (xs : Nat → Int32) (C : Cx E X code 4 RL ret 8 288 600000 7302250) (hs : Sc X b L xs) (hL : L ≤ 100000) (i k n : Nat) (hi : i + 4 ≤ L) (hk : k + 1 ≤ 600000) (hn : n + 8000 ≤ 7302250) (fin : Nx E X b x0 m0 i (k + 1) (n + 8000) 823) : Nx E X b x0 m0 i k n 593 := by
  intro adc fl g a v adm gm am vm e1 e2 hC hM hS
  subst e1; subst e2
  refine mg_aload_n C dL_law_593 rfl ?_
  refine mg_callV C (cv_seal E _ _ _ _ _ _ hC) oL_78 19 rfl rfl (rm_ok rfl (by omega) (by omega)) rfl rfl dL_law_594 (fun o1 w1 z1 => ?_)
  obtain ⟨ad1, fl1, g1, a1, v1, rfl, hS1, hC1, had1, rfl⟩ := z1
  refine mg_v ?_
  refine mg_ws (ws' := cw E ad1 fl1 g1 a1 v1 [] ++ mw E adm gm am vm []) rfl ?_
  refine mg_swap ?_
  refine mg_ws (ws' := mw E adm gm am vm (cw E ad1 fl1 g1 a1 v1 [])) rfl ?_
  refine mg_pop C dL_law_597 rfl ?_
  refine mg_aload_n C dL_law_598 rfl ?_
  refine mg_callV C (mv_seal E _ _ _ _ _ hM) oL_81 17 rfl rfl (rm_ok rfl (by omega) (by omega)) rfl rfl dL_law_599 (fun o2 w2 z2 => ?_)
  obtain ⟨ad2, g2, a2, v2, rfl, hS2, hM2, had2, rfl⟩ := z2
  refine mg_v ?_
  refine mg_ws (ws' := mw E ad2 g2 a2 v2 [] ++ cw E ad1 fl1 g1 a1 v1 []) rfl ?_
  refine mg_swap ?_
  refine mg_ws (ws' := cw E ad1 fl1 g1 a1 v1 (mw E ad2 g2 a2 v2 [])) rfl ?_
  refine mg_pop C dL_law_602 rfl ?_
  refine mg_goto C 823 dL_law_603 (by decide) ?_
  refine mg_widen' (k' := k + 1) (n' := n + 8000) (by omega) (by omega) ?_
  exact fin ad1 fl1 g1 a1 v1 ad2 g2 a2 v2 had1 had2 hC1 hM2 (hS1.two (sh_ug hS 9 (by decide) 1) hS2)
set_option maxHeartbeats 400000 in
set_option maxRecDepth 100000 in
theorem law_c16 (E : En) (X : Fx) (b L x0 m0 : Nat) (xs : Nat → Int32) (C : Cx E X code 4 RL ret 8 288 600000 7302250) (hs : Sc X b L xs) (hL : L ≤ 100000) (i k n : Nat) (hi : i + 4 ≤ L) (hk : k + 1 ≤ 600000) (hn : n + 8000 ≤ 7302250) (fin : Nx E X b x0 m0 i (k + 1) (n + 8000) 823) : Nx E X b x0 m0 i k n 606 := by
  intro adc fl g a v adm gm am vm e1 e2 hC hM hS
  subst e1; subst e2
  refine mg_aload_n C dL_law_606 rfl ?_
  refine mg_callV C (cv_look E _ _ _ _ _ _ hC) oL_82 19 rfl rfl (rm_ok rfl (by omega) (by omega)) rfl rfl dL_law_607 (fun o1 w1 z1 => ?_)
  obtain ⟨r1, ad1, fl1, g1, a1, v1, rfl, hS1, hC1, had1, rfl⟩ := z1
  refine mg_v ?_
  refine mg_ws (ws' := cw E ad1 fl1 g1 a1 v1 [] ++ mw E adm gm am vm []) rfl ?_
  refine mg_swap ?_
  refine mg_ws (ws' := mw E adm gm am vm (cw E ad1 fl1 g1 a1 v1 [])) rfl ?_
  refine mg_pop C dL_law_610 rfl ?_
  refine mg_aload_n C dL_law_611 rfl ?_
  refine mg_callV C (mv_look E _ _ _ _ _ hM) oL_85 17 rfl rfl (rm_ok rfl (by omega) (by omega)) rfl rfl dL_law_612 (fun o2 w2 z2 => ?_)
  obtain ⟨r2, ad2, g2, a2, v2, rfl, hS2, hM2, had2, rfl⟩ := z2
  refine mg_v ?_
  refine mg_ws (ws' := mw E ad2 g2 a2 v2 [] ++ cw E ad1 fl1 g1 a1 v1 []) rfl ?_
  refine mg_swap ?_
  refine mg_ws (ws' := cw E ad1 fl1 g1 a1 v1 (mw E ad2 g2 a2 v2 [])) rfl ?_
  refine mg_pop C dL_law_615 rfl ?_
  refine mg_goto C 823 dL_law_616 (by decide) ?_
  refine mg_widen' (k' := k + 1) (n' := n + 8000) (by omega) (by omega) ?_
  exact fin ad1 fl1 g1 a1 v1 ad2 g2 a2 v2 had1 had2 hC1 hM2 (hS1.two (hS) hS2)
set_option maxHeartbeats 400000 in
set_option maxRecDepth 100000 in
theorem law_c17 (E : En) (X : Fx) (b L x0 m0 : Nat) (xs : Nat → Int32) (C : Cx E X code 4 RL ret 8 288 600000 7302250) (hs : Sc X b L xs) (hL : L ≤ 100000) (i k n : Nat) (hi : i + 4 ≤ L) (hk : k + 1 ≤ 600000) (hn : n + 8000 ≤ 7302250) (fin : Nx E X b x0 m0 i (k + 1) (n + 8000) 823) : Nx E X b x0 m0 i k n 619 := by
  intro adc fl g a v adm gm am vm e1 e2 hC hM hS
  subst e1; subst e2
  refine mg_aload_n C dL_law_619 rfl ?_
  refine mg_aload_n C dL_law_620 rfl ?_
  refine mg_iload_n C dL_law_621 rfl ?_
  refine mg_iconst (v := 1) C dL_law_622 (by decide) ?_
  refine mg_iadd C dL_law_623 ?_
  refine mg_sld C hs (show vp_in (nI i + 1) L from lawin 1 (by omega) (by omega)) dL_law_624 ?_
  refine mg_callV C (cv_fade E _ _ _ _ _ _ _ hC) oL_86 19 rfl rfl (rm_ok rfl (by omega) (by omega)) rfl rfl dL_law_625 (fun o1 w1 z1 => ?_)
  obtain ⟨r1, ad1, fl1, g1, a1, v1, rfl, hS1, hC1, had1, rfl⟩ := z1
  refine mg_v ?_
  refine mg_ws (ws' := cw E ad1 fl1 g1 a1 v1 [] ++ mw E adm gm am vm []) rfl ?_
  refine mg_swap ?_
  refine mg_ws (ws' := mw E adm gm am vm (cw E ad1 fl1 g1 a1 v1 [])) rfl ?_
  refine mg_pop C dL_law_628 rfl ?_
  refine mg_aload_n C dL_law_629 rfl ?_
  refine mg_aload_n C dL_law_630 rfl ?_
  refine mg_iload_n C dL_law_631 rfl ?_
  refine mg_iconst (v := 1) C dL_law_632 (by decide) ?_
  refine mg_iadd C dL_law_633 ?_
  refine mg_sld C hs (show vp_in (nI i + 1) L from lawin 1 (by omega) (by omega)) dL_law_634 ?_
  refine mg_callV C (mv_fade E _ _ _ _ _ _ hM) oL_89 17 rfl rfl (rm_ok rfl (by omega) (by omega)) rfl rfl dL_law_635 (fun o2 w2 z2 => ?_)
  obtain ⟨r2, ad2, g2, a2, v2, rfl, hS2, hM2, had2, rfl⟩ := z2
  refine mg_v ?_
  refine mg_ws (ws' := mw E ad2 g2 a2 v2 [] ++ cw E ad1 fl1 g1 a1 v1 []) rfl ?_
  refine mg_swap ?_
  refine mg_ws (ws' := cw E ad1 fl1 g1 a1 v1 (mw E ad2 g2 a2 v2 [])) rfl ?_
  refine mg_pop C dL_law_638 rfl ?_
  refine mg_goto C 823 dL_law_639 (by decide) ?_
  refine mg_widen' (k' := k + 1) (n' := n + 8000) (by omega) (by omega) ?_
  exact fin ad1 fl1 g1 a1 v1 ad2 g2 a2 v2 had1 had2 hC1 hM2 (hS1.two (hS) hS2)
set_option maxHeartbeats 400000 in
set_option maxRecDepth 100000 in
theorem law_c18 (E : En) (X : Fx) (b L x0 m0 : Nat) (xs : Nat → Int32) (C : Cx E X code 4 RL ret 8 288 600000 7302250) (hs : Sc X b L xs) (hL : L ≤ 100000) (i k n : Nat) (hi : i + 4 ≤ L) (hk : k + 1 ≤ 600000) (hn : n + 8000 ≤ 7302250) (fin : Nx E X b x0 m0 i (k + 1) (n + 8000) 823) : Nx E X b x0 m0 i k n 642 := by
  intro adc fl g a v adm gm am vm e1 e2 hC hM hS
  subst e1; subst e2
  refine mg_aload_n C dL_law_642 rfl ?_
  refine mg_aload_n C dL_law_643 rfl ?_
  refine mg_iload_n C dL_law_644 rfl ?_
  refine mg_iconst (v := 1) C dL_law_645 (by decide) ?_
  refine mg_iadd C dL_law_646 ?_
  refine mg_sld C hs (show vp_in (nI i + 1) L from lawin 1 (by omega) (by omega)) dL_law_647 ?_
  refine mg_aload_n C dL_law_648 rfl ?_
  refine mg_iload_n C dL_law_649 rfl ?_
  refine mg_iconst (v := 2) C dL_law_650 (by decide) ?_
  refine mg_iadd C dL_law_651 ?_
  refine mg_sld C hs (show vp_in (nI i + 2) L from lawin 2 (by omega) (by omega)) dL_law_652 ?_
  refine mg_aload_n C dL_law_653 rfl ?_
  refine mg_iload_n C dL_law_654 rfl ?_
  refine mg_iconst (v := 3) C dL_law_655 (by decide) ?_
  refine mg_iadd C dL_law_656 ?_
  refine mg_sld C hs (show vp_in (nI i + 3) L from lawin 3 (by omega) (by omega)) dL_law_657 ?_
  refine mg_callV C (cv_pulse E _ _ _ _ _ _ _ _ _ hC) oL_90 19 rfl rfl (rm_ok rfl (by omega) (by omega)) rfl rfl dL_law_658 (fun o1 w1 z1 => ?_)
  obtain ⟨r1, ad1, fl1, g1, a1, v1, rfl, hS1, hC1, had1, rfl⟩ := z1
  refine mg_v ?_
  refine mg_ws (ws' := cw E ad1 fl1 g1 a1 v1 [] ++ mw E adm gm am vm []) rfl ?_
  refine mg_swap ?_
  refine mg_ws (ws' := mw E adm gm am vm (cw E ad1 fl1 g1 a1 v1 [])) rfl ?_
  refine mg_pop C dL_law_661 rfl ?_
  refine mg_aload_n C dL_law_662 rfl ?_
  refine mg_aload_n C dL_law_663 rfl ?_
  refine mg_iload_n C dL_law_664 rfl ?_
  refine mg_iconst (v := 1) C dL_law_665 (by decide) ?_
  refine mg_iadd C dL_law_666 ?_
  refine mg_sld C hs (show vp_in (nI i + 1) L from lawin 1 (by omega) (by omega)) dL_law_667 ?_
  refine mg_aload_n C dL_law_668 rfl ?_
  refine mg_iload_n C dL_law_669 rfl ?_
  refine mg_iconst (v := 2) C dL_law_670 (by decide) ?_
  refine mg_iadd C dL_law_671 ?_
  refine mg_sld C hs (show vp_in (nI i + 2) L from lawin 2 (by omega) (by omega)) dL_law_672 ?_
  refine mg_aload_n C dL_law_673 rfl ?_
  refine mg_iload_n C dL_law_674 rfl ?_
  refine mg_iconst (v := 3) C dL_law_675 (by decide) ?_
  refine mg_iadd C dL_law_676 ?_
  refine mg_sld C hs (show vp_in (nI i + 3) L from lawin 3 (by omega) (by omega)) dL_law_677 ?_
  refine mg_callV C (mv_pulse E _ _ _ _ _ _ _ _ hM) oL_93 17 rfl rfl (rm_ok rfl (by omega) (by omega)) rfl rfl dL_law_678 (fun o2 w2 z2 => ?_)
  obtain ⟨r2, ad2, g2, a2, v2, rfl, hS2, hM2, had2, rfl⟩ := z2
  refine mg_v ?_
  refine mg_ws (ws' := mw E ad2 g2 a2 v2 [] ++ cw E ad1 fl1 g1 a1 v1 []) rfl ?_
  refine mg_swap ?_
  refine mg_ws (ws' := cw E ad1 fl1 g1 a1 v1 (mw E ad2 g2 a2 v2 [])) rfl ?_
  refine mg_pop C dL_law_681 rfl ?_
  refine mg_goto C 823 dL_law_682 (by decide) ?_
  refine mg_widen' (k' := k + 1) (n' := n + 8000) (by omega) (by omega) ?_
  exact fin ad1 fl1 g1 a1 v1 ad2 g2 a2 v2 had1 had2 hC1 hM2 (hS1.two (hS) hS2)
set_option maxHeartbeats 400000 in
set_option maxRecDepth 100000 in
theorem law_c19 (E : En) (X : Fx) (b L x0 m0 : Nat) (xs : Nat → Int32) (C : Cx E X code 4 RL ret 8 288 600000 7302250) (hs : Sc X b L xs) (hL : L ≤ 100000) (i k n : Nat) (hi : i + 4 ≤ L) (hk : k + 1 ≤ 600000) (hn : n + 8000 ≤ 7302250) (fin : Nx E X b x0 m0 i (k + 1) (n + 8000) 823) : Nx E X b x0 m0 i k n 685 := by
  intro adc fl g a v adm gm am vm e1 e2 hC hM hS
  subst e1; subst e2
  refine mg_aload_n C dL_law_685 rfl ?_
  refine mg_aload_n C dL_law_686 rfl ?_
  refine mg_iload_n C dL_law_687 rfl ?_
  refine mg_iconst (v := 1) C dL_law_688 (by decide) ?_
  refine mg_iadd C dL_law_689 ?_
  refine mg_sld C hs (show vp_in (nI i + 1) L from lawin 1 (by omega) (by omega)) dL_law_690 ?_
  refine mg_aload_n C dL_law_691 rfl ?_
  refine mg_iload_n C dL_law_692 rfl ?_
  refine mg_iconst (v := 2) C dL_law_693 (by decide) ?_
  refine mg_iadd C dL_law_694 ?_
  refine mg_sld C hs (show vp_in (nI i + 2) L from lawin 2 (by omega) (by omega)) dL_law_695 ?_
  refine mg_aload_n C dL_law_696 rfl ?_
  refine mg_iload_n C dL_law_697 rfl ?_
  refine mg_iconst (v := 3) C dL_law_698 (by decide) ?_
  refine mg_iadd C dL_law_699 ?_
  refine mg_sld C hs (show vp_in (nI i + 3) L from lawin 3 (by omega) (by omega)) dL_law_700 ?_
  refine mg_callV C (cv_find E _ _ _ _ _ _ _ _ _ hC) oL_94 19 rfl rfl (rm_ok rfl (by omega) (by omega)) rfl rfl dL_law_701 (fun o1 w1 z1 => ?_)
  obtain ⟨ad1, fl1, g1, a1, v1, rfl, hS1, hC1, had1, rfl⟩ := z1
  refine mg_v ?_
  refine mg_ws (ws' := cw E ad1 fl1 g1 a1 v1 [] ++ mw E adm gm am vm []) rfl ?_
  refine mg_swap ?_
  refine mg_ws (ws' := mw E adm gm am vm (cw E ad1 fl1 g1 a1 v1 [])) rfl ?_
  refine mg_pop C dL_law_704 rfl ?_
  refine mg_aload_n C dL_law_705 rfl ?_
  refine mg_aload_n C dL_law_706 rfl ?_
  refine mg_iload_n C dL_law_707 rfl ?_
  refine mg_iconst (v := 1) C dL_law_708 (by decide) ?_
  refine mg_iadd C dL_law_709 ?_
  refine mg_sld C hs (show vp_in (nI i + 1) L from lawin 1 (by omega) (by omega)) dL_law_710 ?_
  refine mg_aload_n C dL_law_711 rfl ?_
  refine mg_iload_n C dL_law_712 rfl ?_
  refine mg_iconst (v := 2) C dL_law_713 (by decide) ?_
  refine mg_iadd C dL_law_714 ?_
  refine mg_sld C hs (show vp_in (nI i + 2) L from lawin 2 (by omega) (by omega)) dL_law_715 ?_
  refine mg_aload_n C dL_law_716 rfl ?_
  refine mg_iload_n C dL_law_717 rfl ?_
  refine mg_iconst (v := 3) C dL_law_718 (by decide) ?_
  refine mg_iadd C dL_law_719 ?_
  refine mg_sld C hs (show vp_in (nI i + 3) L from lawin 3 (by omega) (by omega)) dL_law_720 ?_
  refine mg_callV C (mv_find E _ _ _ _ _ _ _ _ hM) oL_97 17 rfl rfl (rm_ok rfl (by omega) (by omega)) rfl rfl dL_law_721 (fun o2 w2 z2 => ?_)
  obtain ⟨ad2, g2, a2, v2, rfl, hS2, hM2, had2, rfl⟩ := z2
  refine mg_v ?_
  refine mg_ws (ws' := mw E ad2 g2 a2 v2 [] ++ cw E ad1 fl1 g1 a1 v1 []) rfl ?_
  refine mg_swap ?_
  refine mg_ws (ws' := cw E ad1 fl1 g1 a1 v1 (mw E ad2 g2 a2 v2 [])) rfl ?_
  refine mg_pop C dL_law_724 rfl ?_
  refine mg_goto C 823 dL_law_725 (by decide) ?_
  refine mg_widen' (k' := k + 1) (n' := n + 8000) (by omega) (by omega) ?_
  exact fin ad1 fl1 g1 a1 v1 ad2 g2 a2 v2 had1 had2 hC1 hM2 (hS1.two (sh_find hS _ _ _) hS2)
set_option maxHeartbeats 400000 in
set_option maxRecDepth 100000 in
theorem law_c20 (E : En) (X : Fx) (b L x0 m0 : Nat) (xs : Nat → Int32) (C : Cx E X code 4 RL ret 8 288 600000 7302250) (hs : Sc X b L xs) (hL : L ≤ 100000) (i k n : Nat) (hi : i + 4 ≤ L) (hk : k + 1 ≤ 600000) (hn : n + 8000 ≤ 7302250) (fin : Nx E X b x0 m0 i (k + 1) (n + 8000) 823) : Nx E X b x0 m0 i k n 728 := by
  intro adc fl g a v adm gm am vm e1 e2 hC hM hS
  subst e1; subst e2
  refine mg_aload_n C dL_law_728 rfl ?_
  refine mg_aload_n C dL_law_729 rfl ?_
  refine mg_iload_n C dL_law_730 rfl ?_
  refine mg_iconst (v := 1) C dL_law_731 (by decide) ?_
  refine mg_iadd C dL_law_732 ?_
  refine mg_sld C hs (show vp_in (nI i + 1) L from lawin 1 (by omega) (by omega)) dL_law_733 ?_
  refine mg_aload_n C dL_law_734 rfl ?_
  refine mg_iload_n C dL_law_735 rfl ?_
  refine mg_iconst (v := 2) C dL_law_736 (by decide) ?_
  refine mg_iadd C dL_law_737 ?_
  refine mg_sld C hs (show vp_in (nI i + 2) L from lawin 2 (by omega) (by omega)) dL_law_738 ?_
  refine mg_callV C (cv_actAt E _ _ _ _ _ _ _ _ hC) oL_98 19 rfl rfl (rm_ok rfl (by omega) (by omega)) rfl rfl dL_law_739 (fun o1 w1 z1 => ?_)
  obtain ⟨ad1, fl1, g1, a1, v1, rfl, hS1, hC1, had1, rfl⟩ := z1
  refine mg_v ?_
  refine mg_ws (ws' := cw E ad1 fl1 g1 a1 v1 [] ++ mw E adm gm am vm []) rfl ?_
  refine mg_swap ?_
  refine mg_ws (ws' := mw E adm gm am vm (cw E ad1 fl1 g1 a1 v1 [])) rfl ?_
  refine mg_pop C dL_law_742 rfl ?_
  refine mg_aload_n C dL_law_743 rfl ?_
  refine mg_aload_n C dL_law_744 rfl ?_
  refine mg_iload_n C dL_law_745 rfl ?_
  refine mg_iconst (v := 1) C dL_law_746 (by decide) ?_
  refine mg_iadd C dL_law_747 ?_
  refine mg_sld C hs (show vp_in (nI i + 1) L from lawin 1 (by omega) (by omega)) dL_law_748 ?_
  refine mg_aload_n C dL_law_749 rfl ?_
  refine mg_iload_n C dL_law_750 rfl ?_
  refine mg_iconst (v := 2) C dL_law_751 (by decide) ?_
  refine mg_iadd C dL_law_752 ?_
  refine mg_sld C hs (show vp_in (nI i + 2) L from lawin 2 (by omega) (by omega)) dL_law_753 ?_
  refine mg_callV C (mv_actAt E _ _ _ _ _ _ _ hM) oL_101 17 rfl rfl (rm_ok rfl (by omega) (by omega)) rfl rfl dL_law_754 (fun o2 w2 z2 => ?_)
  obtain ⟨ad2, g2, a2, v2, rfl, hS2, hM2, had2, rfl⟩ := z2
  refine mg_v ?_
  refine mg_ws (ws' := mw E ad2 g2 a2 v2 [] ++ cw E ad1 fl1 g1 a1 v1 []) rfl ?_
  refine mg_swap ?_
  refine mg_ws (ws' := cw E ad1 fl1 g1 a1 v1 (mw E ad2 g2 a2 v2 [])) rfl ?_
  refine mg_pop C dL_law_757 rfl ?_
  refine mg_goto C 823 dL_law_758 (by decide) ?_
  refine mg_widen' (k' := k + 1) (n' := n + 8000) (by omega) (by omega) ?_
  exact fin ad1 fl1 g1 a1 v1 ad2 g2 a2 v2 had1 had2 hC1 hM2 (hS1.two (hS) hS2)
set_option maxHeartbeats 400000 in
set_option maxRecDepth 100000 in
theorem law_c21 (E : En) (X : Fx) (b L x0 m0 : Nat) (xs : Nat → Int32) (C : Cx E X code 4 RL ret 8 288 600000 7302250) (hs : Sc X b L xs) (hL : L ≤ 100000) (i k n : Nat) (hi : i + 4 ≤ L) (hk : k + 1 ≤ 600000) (hn : n + 8000 ≤ 7302250) (fin : Nx E X b x0 m0 i (k + 1) (n + 8000) 823) : Nx E X b x0 m0 i k n 761 := by
  intro adc fl g a v adm gm am vm e1 e2 hC hM hS
  subst e1; subst e2
  refine mg_aload_n C dL_law_761 rfl ?_
  refine mg_callV C (cv_where E _ _ _ _ _ _ hC) oL_102 19 rfl rfl (rm_ok rfl (by omega) (by omega)) rfl rfl dL_law_762 (fun o1 w1 z1 => ?_)
  obtain ⟨ad1, fl1, g1, a1, v1, rfl, hS1, hC1, had1, rfl⟩ := z1
  refine mg_v ?_
  refine mg_ws (ws' := cw E ad1 fl1 g1 a1 v1 [] ++ mw E adm gm am vm []) rfl ?_
  refine mg_swap ?_
  refine mg_ws (ws' := mw E adm gm am vm (cw E ad1 fl1 g1 a1 v1 [])) rfl ?_
  refine mg_pop C dL_law_765 rfl ?_
  refine mg_aload_n C dL_law_766 rfl ?_
  refine mg_callV C (mv_where E _ _ _ _ _ hM) oL_105 17 rfl rfl (rm_ok rfl (by omega) (by omega)) rfl rfl dL_law_767 (fun o2 w2 z2 => ?_)
  obtain ⟨ad2, g2, a2, v2, rfl, hS2, hM2, had2, rfl⟩ := z2
  refine mg_v ?_
  refine mg_ws (ws' := mw E ad2 g2 a2 v2 [] ++ cw E ad1 fl1 g1 a1 v1 []) rfl ?_
  refine mg_swap ?_
  refine mg_ws (ws' := cw E ad1 fl1 g1 a1 v1 (mw E ad2 g2 a2 v2 [])) rfl ?_
  refine mg_pop C dL_law_770 rfl ?_
  refine mg_goto C 823 dL_law_771 (by decide) ?_
  refine mg_widen' (k' := k + 1) (n' := n + 8000) (by omega) (by omega) ?_
  exact fin ad1 fl1 g1 a1 v1 ad2 g2 a2 v2 had1 had2 hC1 hM2 (hS1.two (hS) hS2)
set_option maxHeartbeats 400000 in
set_option maxRecDepth 100000 in
theorem law_c22 (E : En) (X : Fx) (b L x0 m0 : Nat) (xs : Nat → Int32) (C : Cx E X code 4 RL ret 8 288 600000 7302250) (hs : Sc X b L xs) (hL : L ≤ 100000) (i k n : Nat) (hi : i + 4 ≤ L) (hk : k + 1 ≤ 600000) (hn : n + 8000 ≤ 7302250) (fin : Nx E X b x0 m0 i (k + 1) (n + 8000) 823) : Nx E X b x0 m0 i k n 774 := by
  intro adc fl g a v adm gm am vm e1 e2 hC hM hS
  subst e1; subst e2
  refine mg_aload_n C dL_law_774 rfl ?_
  refine mg_callV C (cv_met E _ _ _ _ _ _ hC) oL_106 19 rfl rfl (rm_ok rfl (by omega) (by omega)) rfl rfl dL_law_775 (fun o1 w1 z1 => ?_)
  obtain ⟨ad1, fl1, g1, a1, v1, rfl, hS1, hC1, had1, rfl⟩ := z1
  refine mg_v ?_
  refine mg_ws (ws' := cw E ad1 fl1 g1 a1 v1 [] ++ mw E adm gm am vm []) rfl ?_
  refine mg_swap ?_
  refine mg_ws (ws' := mw E adm gm am vm (cw E ad1 fl1 g1 a1 v1 [])) rfl ?_
  refine mg_pop C dL_law_778 rfl ?_
  refine mg_aload_n C dL_law_779 rfl ?_
  refine mg_callV C (mv_met E _ _ _ _ _ hM) oL_109 17 rfl rfl (rm_ok rfl (by omega) (by omega)) rfl rfl dL_law_780 (fun o2 w2 z2 => ?_)
  obtain ⟨ad2, g2, a2, v2, rfl, hS2, hM2, had2, rfl⟩ := z2
  refine mg_v ?_
  refine mg_ws (ws' := mw E ad2 g2 a2 v2 [] ++ cw E ad1 fl1 g1 a1 v1 []) rfl ?_
  refine mg_swap ?_
  refine mg_ws (ws' := cw E ad1 fl1 g1 a1 v1 (mw E ad2 g2 a2 v2 [])) rfl ?_
  refine mg_pop C dL_law_783 rfl ?_
  refine mg_goto C 823 dL_law_784 (by decide) ?_
  refine mg_widen' (k' := k + 1) (n' := n + 8000) (by omega) (by omega) ?_
  exact fin ad1 fl1 g1 a1 v1 ad2 g2 a2 v2 had1 had2 hC1 hM2 (hS1.two (hS) hS2)
set_option maxHeartbeats 400000 in
set_option maxRecDepth 100000 in
theorem law_c23 (E : En) (X : Fx) (b L x0 m0 : Nat) (xs : Nat → Int32) (C : Cx E X code 4 RL ret 8 288 600000 7302250) (hs : Sc X b L xs) (hL : L ≤ 100000) (i k n : Nat) (hi : i + 4 ≤ L) (hk : k + 1 ≤ 600000) (hn : n + 8000 ≤ 7302250) (fin : Nx E X b x0 m0 i (k + 1) (n + 8000) 823) : Nx E X b x0 m0 i k n 787 := by
  intro adc fl g a v adm gm am vm e1 e2 hC hM hS
  subst e1; subst e2
  refine mg_aload_n C dL_law_787 rfl ?_
  refine mg_aload_n C dL_law_788 rfl ?_
  refine mg_iload_n C dL_law_789 rfl ?_
  refine mg_iconst (v := 1) C dL_law_790 (by decide) ?_
  refine mg_iadd C dL_law_791 ?_
  refine mg_sld C hs (show vp_in (nI i + 1) L from lawin 1 (by omega) (by omega)) dL_law_792 ?_
  refine mg_callV C (cv_count E _ _ _ _ _ _ _ hC) oL_110 19 rfl rfl (rm_ok rfl (by omega) (by omega)) rfl rfl dL_law_793 (fun o1 w1 z1 => ?_)
  obtain ⟨ad1, fl1, g1, a1, v1, rfl, hS1, hC1, had1, rfl⟩ := z1
  refine mg_v ?_
  refine mg_ws (ws' := cw E ad1 fl1 g1 a1 v1 [] ++ mw E adm gm am vm []) rfl ?_
  refine mg_swap ?_
  refine mg_ws (ws' := mw E adm gm am vm (cw E ad1 fl1 g1 a1 v1 [])) rfl ?_
  refine mg_aload_n C dL_law_796 rfl ?_
  refine mg_aload_n C dL_law_797 rfl ?_
  refine mg_iload_n C dL_law_798 rfl ?_
  refine mg_iconst (v := 1) C dL_law_799 (by decide) ?_
  refine mg_iadd C dL_law_800 ?_
  refine mg_sld C hs (show vp_in (nI i + 1) L from lawin 1 (by omega) (by omega)) dL_law_801 ?_
  refine mg_callV C (mv_count E _ _ _ _ _ _ hM) oL_113 17 rfl rfl (rm_ok rfl (by omega) (by omega)) rfl rfl dL_law_802 (fun o2 w2 z2 => ?_)
  obtain ⟨ad2, g2, a2, v2, rfl, hS2, hM2, had2, rfl⟩ := z2
  refine mg_v ?_
  refine mg_ws (ws' := mw E ad2 g2 a2 v2 [] ++ cw E ad1 fl1 g1 a1 v1 []) rfl ?_
  refine mg_swap ?_
  refine mg_ws (ws' := cw E ad1 fl1 g1 a1 v1 (mw E ad2 g2 a2 v2 [])) rfl ?_
  refine mg_icmp_eq C 823 dL_law_805 (by decide) (fun _ => ?_) (fun hne => absurd ((eq_count hC.1 hS _).symm) hne)
  refine mg_widen' (k' := k + 1) (n' := n + 8000) (by omega) (by omega) ?_
  exact fin ad1 fl1 g1 a1 v1 ad2 g2 a2 v2 had1 had2 hC1 hM2 (hS1.two (hS) hS2)
set_option maxHeartbeats 400000 in
set_option maxRecDepth 100000 in
theorem law_c24 (E : En) (X : Fx) (b L x0 m0 : Nat) (xs : Nat → Int32) (C : Cx E X code 4 RL ret 8 288 600000 7302250) (hs : Sc X b L xs) (hL : L ≤ 100000) (i k n : Nat) (hi : i + 4 ≤ L) (hk : k + 1 ≤ 600000) (hn : n + 8000 ≤ 7302250) (fin : Nx E X b x0 m0 i (k + 1) (n + 8000) 823) : Nx E X b x0 m0 i k n 810 := by
  intro adc fl g a v adm gm am vm e1 e2 hC hM hS
  subst e1; subst e2
  refine mg_aload_n C dL_law_810 rfl ?_
  refine mg_callV C (cv_digest E _ _ _ _ _ _ hC) oL_114 19 rfl rfl (rm_ok rfl (by omega) (by omega)) rfl rfl dL_law_811 (fun o1 w1 z1 => ?_)
  obtain ⟨r1, ad1, fl1, g1, a1, v1, rfl, hS1, hC1, had1, rfl⟩ := z1
  refine mg_v ?_
  refine mg_ws (ws' := cw E ad1 fl1 g1 a1 v1 [] ++ mw E adm gm am vm []) rfl ?_
  refine mg_swap ?_
  refine mg_ws (ws' := mw E adm gm am vm (cw E ad1 fl1 g1 a1 v1 [])) rfl ?_
  refine mg_pop2 C dL_law_814 rfl ?_
  refine mg_aload_n C dL_law_815 rfl ?_
  refine mg_callV C (mv_digest E _ _ _ _ _ hM) oL_118 17 rfl rfl (rm_ok rfl (by omega) (by omega)) rfl rfl dL_law_816 (fun o2 w2 z2 => ?_)
  obtain ⟨r2, ad2, g2, a2, v2, rfl, hS2, hM2, had2, rfl⟩ := z2
  refine mg_v ?_
  refine mg_ws (ws' := mw E ad2 g2 a2 v2 [] ++ cw E ad1 fl1 g1 a1 v1 []) rfl ?_
  refine mg_swap ?_
  refine mg_ws (ws' := cw E ad1 fl1 g1 a1 v1 (mw E ad2 g2 a2 v2 [])) rfl ?_
  refine mg_pop2 C dL_law_819 rfl ?_
  refine mg_goto C 823 dL_law_820 (by decide) ?_
  refine mg_widen' (k' := k + 1) (n' := n + 8000) (by omega) (by omega) ?_
  exact fin ad1 fl1 g1 a1 v1 ad2 g2 a2 v2 had1 had2 hC1 hM2 (hS1.two (hS) hS2)
set_option maxHeartbeats 400000 in
set_option maxRecDepth 100000 in
theorem law_sw (E : En) (X : Fx) (b L x0 m0 : Nat) (xs : Nat → Int32) (C : Cx E X code 4 RL ret 8 288 600000 7302250) (hs : Sc X b L xs) (hL : L ≤ 100000) (i k n : Nat) (hi : i + 4 ≤ L) (hk : k + 1 ≤ 600000) (hn : n + 8000 ≤ 7302250) (fin : Nx E X b x0 m0 i (k + 1) (n + 8000) 823) : Nx E X b x0 m0 i k n 26 := by
  intro adc fl g a v adm gm am vm e1 e2 hC hM hS
  refine mg_aload_n C dL_law_26 rfl ?_
  refine mg_iload_n C dL_law_27 rfl ?_
  refine mg_sld C hs (vp_in_nI (by omega) (by omega)) dL_law_28 ?_
  refine mg_bipush (v := 31) C dL_law_29 (by decide) ?_
  refine mg_iand C dL_law_31 ?_
  refine mg_topi (fun yy eyy => ?_)
  obtain ⟨j, hj, e⟩ := pk_andE (xs (nI i).toNatClampNeg) (m := 31) 5 (by decide)
  rw [e] at eyy
  subst eyy
  by_cases h25 : j < 25
  · rcases (by omega : j = 0 ∨ j = 1 ∨ j = 2 ∨ j = 3 ∨ j = 4 ∨ j = 5 ∨ j = 6 ∨ j = 7 ∨ j = 8 ∨ j = 9 ∨ j = 10 ∨ j = 11 ∨ j = 12 ∨ j = 13 ∨ j = 14 ∨ j = 15 ∨ j = 16 ∨ j = 17 ∨ j = 18 ∨ j = 19 ∨ j = 20 ∨ j = 21 ∨ j = 22 ∨ j = 23 ∨ j = 24) with rfl | rfl | rfl | rfl | rfl | rfl | rfl | rfl | rfl | rfl | rfl | rfl | rfl | rfl | rfl | rfl | rfl | rfl | rfl | rfl | rfl | rfl | rfl | rfl | rfl
    · refine mg_tabIn C 148 dL_law_32 (by decide) (by decide) rfl (by decide) ?_
      exact law_c0 E X b L x0 m0 xs C hs hL i k n hi hk hn fin adc fl g a v adm gm am vm e1 e2 hC hM hS
    · refine mg_tabIn C 191 dL_law_32 (by decide) (by decide) rfl (by decide) ?_
      exact law_c1 E X b L x0 m0 xs C hs hL i k n hi hk hn fin adc fl g a v adm gm am vm e1 e2 hC hM hS
    · refine mg_tabIn C 234 dL_law_32 (by decide) (by decide) rfl (by decide) ?_
      exact law_c2 E X b L x0 m0 xs C hs hL i k n hi hk hn fin adc fl g a v adm gm am vm e1 e2 hC hM hS
    · refine mg_tabIn C 277 dL_law_32 (by decide) (by decide) rfl (by decide) ?_
      exact law_c3 E X b L x0 m0 xs C hs hL i k n hi hk hn fin adc fl g a v adm gm am vm e1 e2 hC hM hS
    · refine mg_tabIn C 320 dL_law_32 (by decide) (by decide) rfl (by decide) ?_
      exact law_c4 E X b L x0 m0 xs C hs hL i k n hi hk hn fin adc fl g a v adm gm am vm e1 e2 hC hM hS
    · refine mg_tabIn C 353 dL_law_32 (by decide) (by decide) rfl (by decide) ?_
      exact law_c5 E X b L x0 m0 xs C hs hL i k n hi hk hn fin adc fl g a v adm gm am vm e1 e2 hC hM hS
    · refine mg_tabIn C 376 dL_law_32 (by decide) (by decide) rfl (by decide) ?_
      exact law_c6 E X b L x0 m0 xs C hs hL i k n hi hk hn fin adc fl g a v adm gm am vm e1 e2 hC hM hS
    · refine mg_tabIn C 399 dL_law_32 (by decide) (by decide) rfl (by decide) ?_
      exact law_c7 E X b L x0 m0 xs C hs hL i k n hi hk hn fin adc fl g a v adm gm am vm e1 e2 hC hM hS
    · refine mg_tabIn C 442 dL_law_32 (by decide) (by decide) rfl (by decide) ?_
      exact law_c8 E X b L x0 m0 xs C hs hL i k n hi hk hn fin adc fl g a v adm gm am vm e1 e2 hC hM hS
    · refine mg_tabIn C 485 dL_law_32 (by decide) (by decide) rfl (by decide) ?_
      exact law_c9 E X b L x0 m0 xs C hs hL i k n hi hk hn fin adc fl g a v adm gm am vm e1 e2 hC hM hS
    · refine mg_tabIn C 498 dL_law_32 (by decide) (by decide) rfl (by decide) ?_
      exact law_c10 E X b L x0 m0 xs C hs hL i k n hi hk hn fin adc fl g a v adm gm am vm e1 e2 hC hM hS
    · refine mg_tabIn C 521 dL_law_32 (by decide) (by decide) rfl (by decide) ?_
      exact law_c11 E X b L x0 m0 xs C hs hL i k n hi hk hn fin adc fl g a v adm gm am vm e1 e2 hC hM hS
    · refine mg_tabIn C 544 dL_law_32 (by decide) (by decide) rfl (by decide) ?_
      exact law_c12 E X b L x0 m0 xs C hs hL i k n hi hk hn fin adc fl g a v adm gm am vm e1 e2 hC hM hS
    · refine mg_tabIn C 557 dL_law_32 (by decide) (by decide) rfl (by decide) ?_
      exact law_c13 E X b L x0 m0 xs C hs hL i k n hi hk hn fin adc fl g a v adm gm am vm e1 e2 hC hM hS
    · refine mg_tabIn C 570 dL_law_32 (by decide) (by decide) rfl (by decide) ?_
      exact law_c14 E X b L x0 m0 xs C hs hL i k n hi hk hn fin adc fl g a v adm gm am vm e1 e2 hC hM hS
    · refine mg_tabIn C 593 dL_law_32 (by decide) (by decide) rfl (by decide) ?_
      exact law_c15 E X b L x0 m0 xs C hs hL i k n hi hk hn fin adc fl g a v adm gm am vm e1 e2 hC hM hS
    · refine mg_tabIn C 606 dL_law_32 (by decide) (by decide) rfl (by decide) ?_
      exact law_c16 E X b L x0 m0 xs C hs hL i k n hi hk hn fin adc fl g a v adm gm am vm e1 e2 hC hM hS
    · refine mg_tabIn C 619 dL_law_32 (by decide) (by decide) rfl (by decide) ?_
      exact law_c17 E X b L x0 m0 xs C hs hL i k n hi hk hn fin adc fl g a v adm gm am vm e1 e2 hC hM hS
    · refine mg_tabIn C 642 dL_law_32 (by decide) (by decide) rfl (by decide) ?_
      exact law_c18 E X b L x0 m0 xs C hs hL i k n hi hk hn fin adc fl g a v adm gm am vm e1 e2 hC hM hS
    · refine mg_tabIn C 685 dL_law_32 (by decide) (by decide) rfl (by decide) ?_
      exact law_c19 E X b L x0 m0 xs C hs hL i k n hi hk hn fin adc fl g a v adm gm am vm e1 e2 hC hM hS
    · refine mg_tabIn C 728 dL_law_32 (by decide) (by decide) rfl (by decide) ?_
      exact law_c20 E X b L x0 m0 xs C hs hL i k n hi hk hn fin adc fl g a v adm gm am vm e1 e2 hC hM hS
    · refine mg_tabIn C 761 dL_law_32 (by decide) (by decide) rfl (by decide) ?_
      exact law_c21 E X b L x0 m0 xs C hs hL i k n hi hk hn fin adc fl g a v adm gm am vm e1 e2 hC hM hS
    · refine mg_tabIn C 774 dL_law_32 (by decide) (by decide) rfl (by decide) ?_
      exact law_c22 E X b L x0 m0 xs C hs hL i k n hi hk hn fin adc fl g a v adm gm am vm e1 e2 hC hM hS
    · refine mg_tabIn C 787 dL_law_32 (by decide) (by decide) rfl (by decide) ?_
      exact law_c23 E X b L x0 m0 xs C hs hL i k n hi hk hn fin adc fl g a v adm gm am vm e1 e2 hC hM hS
    · refine mg_tabIn C 810 dL_law_32 (by decide) (by decide) rfl (by decide) ?_
      exact law_c24 E X b L x0 m0 xs C hs hL i k n hi hk hn fin adc fl g a v adm gm am vm e1 e2 hC hM hS
  · refine mg_tabOut C 823 dL_law_32 (Or.inr (by rw [nI_toInt (by omega)]; omega)) (by decide) ?_
    refine mg_widen' (k' := k + 1) (n' := n + 8000) (by omega) (by omega) ?_
    exact fin adc fl g a v adm gm am vm e1 e2 hC hM hS
set_option maxHeartbeats 400000 in
set_option maxRecDepth 100000 in
theorem law_loop (E : En) (X : Fx) (b L x0 m0 : Nat) (xs : Nat → Int32) (C : Cx E X code 4 RL ret 8 288 600000 7302250) (hq : Lq X b) (hs : Sc X b L xs) (hL : L ≤ 2048) : ∀ (m1 t : Nat), L < 4 * t + m1 → 4 * t ≤ L → Nx E X b x0 m0 (4 * t) (38 + t) (60361 + 8000 * t) 18 := by
  intro m1
  induction m1 with
  | zero => intro t h1 h2; omega
  | succ m1 ih =>
    intro t h1 h2 adc fl g a v adm gm am vm e1 e2 hC hM hS
    refine mg_iload_n C dL_law_18 rfl ?_
    refine mg_aload_n C dL_law_19 rfl ?_
    refine mg_slen C hs dL_law_20 ?_
    refine mg_iconst (v := 4) C dL_law_21 (by decide) ?_
    refine mg_isub C dL_law_22 ?_
    by_cases h4 : 4 * t + 4 ≤ L
    · have e4 : nI L - 4 = nI (L - 4) := pk_sub (b := 4) (by omega)
      refine mg_icmp_gt C 829 dL_law_23 (by decide) (fun hh => absurd hh (by rw [e4]; exact nI_nlt (by omega) (by omega))) (fun _ => ?_)
      refine law_sw E X b L x0 m0 xs C hs (by omega) (4 * t) (38 + t) (60361 + 8000 * t) h4 (by omega) (by omega) ?_ adc fl g a v adm gm am vm e1 e2 hC hM hS
      intro adc2 fl2 g2 a2 v2 adm2 gm2 am2 vm2 f1 f2 hC2 hM2 hS2
      refine mg_iinc C dL_law_823 rfl rfl ?_
      refine mg_lve (lv' := [(0, .ref b), (1, .ref x0), (2, .ref m0), (3, .int (nI (4 * (t + 1))))]) (by rw [show nI (4 * t) + Int32.ofInt 4 = nI (4 * (t + 1)) from nI_add (4 * t) 4]; rfl) ?_
      refine mg_goto C 18 dL_law_826 (by decide) ?_
      refine mg_widen' (k' := 38 + (t + 1)) (n' := 60361 + 8000 * (t + 1)) (by omega) (by omega) ?_
      exact ih (t + 1) (by omega) (by omega) adc2 fl2 g2 a2 v2 adm2 gm2 am2 vm2 f1 f2 hC2 hM2 hS2
    · have hgt : nI L - 4 < nI (4 * t) := by
        by_cases hL4 : L < 4
        · exact Int32.lt_of_lt_of_le (pk_sneg (a := L) (b := 4) (by decide) hL4) (nI_pos' (by omega))
        · have e4 : nI L - 4 = nI (L - 4) := pk_sub (b := 4) (by omega)
          rw [e4]; exact nI_lt (by omega) (by omega)
      refine mg_icmp_gt C 829 dL_law_23 (by decide) (fun _ => ?_) (fun hh => absurd hgt hh)
      refine mg_iconst (v := 1) C dL_law_829 (by decide) ?_
      exact mg_lawret C hq (by omega) (by omega) dL_law_830
set_option maxHeartbeats 400000 in
set_option maxRecDepth 100000 in
theorem law_enter (E : En) (X : Fx) (b L : Nat) (xs : Nat → Int32) (C : Cx E X code 4 RL ret 8 288 600000 7302250) (hq : Lq X b) (hs : Sc X b L xs) (hL : L ≤ 2048) : GG E X [] 0 0 0 [(0, .ref b)] [] := by
  refine mg_new C inG_X4 tyX4 tyX4_ok nL_7 (ci := 4) rfl (fs := [.null, .null, .null, .null]) rfl (by decide) (by decide) dL_law_0 (fun q0 => ?_)
  refine mg_dup C dL_law_3 rfl ?_
  refine mg_callI C (ct_X4_init E q0 []) oL_9 rfl rfl rfl rfl dL_law_4 (fun o1 w1 z1 => ?_)
  obtain ⟨rfl, lx, hx19, rfl⟩ := z1
  refine mg_v0 ?_
  refine mg_astore_n C dL_law_7 rfl ?_
  refine mg_lve (lv' := [(0, .ref b), (1, .ref q0)]) rfl ?_
  refine mg_new C inG_X5 tyX5 tyX5_ok nL_10 (ci := 5) rfl (fs := [.int 0, .int 0, .int 0, .null, .null, .null, .null, .int 0, .int 0, .int 0, .int 0, .int 0, .int 0, .null, .null, .null, .null, .null, .null, .null, .null, .null, .null, .null, .null, .int 0, .int 0, .null, .int 0]) rfl (by decide) (by decide) dL_law_8 (fun q8 => ?_)
  refine mg_dup C dL_law_11 rfl ?_
  refine mg_callI C (ct_X5_init E q8 (cw E (adL lx) 16 gF aF vF [])) oL_12 rfl rfl rfl rfl dL_law_12 (fun o2 w2 z2 => ?_)
  obtain ⟨rfl, lm, hm17, rfl⟩ := z2
  refine mg_v0 ?_
  refine mg_astore_n C dL_law_15 rfl ?_
  refine mg_lve (lv' := [(0, .ref b), (1, .ref q0), (2, .ref q8)]) rfl ?_
  refine mg_iconst (v := 0) C dL_law_16 (by decide) ?_
  refine mg_istore_n C dL_law_17 rfl ?_
  refine mg_lve (lv' := [(0, .ref b), (1, .ref q0), (2, .ref q8), (3, .int (nI (4 * 0)))]) rfl ?_
  refine mg_ws (ws' := mw E (adL lm) gF aF vF [] ++ cw E (adL lx) 16 gF aF vF []) rfl ?_
  refine mg_swap ?_
  refine mg_ws (ws' := cw E (adL lx) 16 gF aF vF (mw E (adL lm) gF aF vF [])) rfl ?_
  refine mg_widen (k' := 38 + 0) (n' := 60361 + 8000 * 0) rfl rfl ?_
  exact law_loop E X b L q0 q8 xs C hq hs hL (L + 1) 0 (by omega) (by omega) (adL lx) 16 gF aF vF (adL lm) gF aF vF hx19 hm17 cv_F mo_F Sh.rf
set_option maxHeartbeats 400000 in
set_option maxRecDepth 100000 in
theorem whole_start {p : Program} {e : Env} {s : State} {m : MethodId} {below : List Frame} {meth : Method} {c : Code} (l : Launch) {b L : Nat} {xs : Nat → Int32} (hL : L ≤ 2048) (C0 : lw_At p s m meth c b L xs) : W p l e room_1 s m #[Value.ref b] below meth c s.heap [] 0 0 (lw_Z below #[Value.ref b] s) (entryFrame m ([Value.ref b] : List Value).toArray 4) := by
  obtain ⟨hx, hb, hr, hml, hown, hts, hX, hbl, hlocks, hgv⟩ := C0
  have htg : ∀ w ∈ gtbl, w.before #[Value.ref b] s = true := fun w hw => hts w (List.mem_filter.mp hw).1
  obtain ⟨c0, iS0, hKn0⟩ := u_known (C := RX0) (T := TX0) (N := 4) (n := 4) htg inG_X0 (htg (.instantiable RX0 4) (gt_of ⟨List.mem_of_getElem? (i := 184) (by decide +kernel), by decide +kernel⟩))
  obtain ⟨c1, iS1, hKn1⟩ := u_known (C := RX1) (T := TX1) (N := 8) (n := 8) htg inG_X1 (htg (.instantiable RX1 8) (gt_of ⟨List.mem_of_getElem? (i := 85) (by decide +kernel), by decide +kernel⟩))
  obtain ⟨c2, iS2, hKn2⟩ := u_known (C := RX2) (T := TX2) (N := 11) (n := 11) htg inG_X2 (htg (.instantiable RX2 11) (gt_of ⟨List.mem_of_getElem? (i := 204) (by decide +kernel), by decide +kernel⟩))
  obtain ⟨c3, iS3, hKn3⟩ := u_known (C := RX3) (T := TX3) (N := 11) (n := 11) htg inG_X3 (htg (.instantiable RX3 11) (gt_of ⟨List.mem_of_getElem? (i := 138) (by decide +kernel), by decide +kernel⟩))
  obtain ⟨c4, iS4, hKn4⟩ := u_known (C := RX4) (T := TX4) (N := 4) (n := 4) htg inG_X4 (htg (.instantiable RX4 4) (gt_of ⟨List.mem_of_getElem? (i := 77) (by decide +kernel), by decide +kernel⟩))
  obtain ⟨c5, iS5, hKn5⟩ := u_known (C := RX5) (T := TX5) (N := 29) (n := 29) htg inG_X5 (htg (.instantiable RX5 29) (gt_of ⟨List.mem_of_getElem? (i := 627) (by decide +kernel), by decide +kernel⟩))
  obtain ⟨dC, dI, hKc⟩ : ∃ (dC : Nat → ClassId) (dI : Nat → Nat → Nat), ∀ (k : Nat) (q : vw_C), vwCl[k]? = some q → u_Kn s q.1 q.2.1 q.2.2 (dC k) (dI k) := by
    refine ⟨fun k => match k with | 0 => c0 | 1 => c1 | 2 => c2 | 3 => c3 | 4 => c4 | _ => c5, fun k => match k with | 0 => iS0 | 1 => iS1 | 2 => iS2 | 3 => iS3 | 4 => iS4 | _ => iS5, ?_⟩
    intro k q hq
    match k, hq with
    | 0, hq => cases hq; exact hKn0
    | 1, hq => cases hq; exact hKn1
    | 2, hq => cases hq; exact hKn2
    | 3, hq => cases hq; exact hKn3
    | 4, hq => cases hq; exact hKn4
    | 5, hq => cases hq; exact hKn5
    | k + 6, hq => simp [vwCl] at hq
  obtain ⟨cI, kI, compI, fI, gI, hI⟩ := Cond.arrayClass_spec (htg _ aI_ok)
  obtain ⟨cL, kL, compL, fL, gL, hLk⟩ := Cond.arrayClass_spec (htg _ aJ_ok)
  have hK : va_K (dC, dI) vwCl [(cI, .int), (cL, .long)] s := by
    refine ⟨hKc, fun k q hq => ?_⟩
    match k, hq with
    | 0, hq => cases hq; exact ⟨fun n z => ⟨fun k h => (by cases h), kI, gI, compI, hI⟩, fI⟩
    | 1, hq => cases hq; exact ⟨fun n z => ⟨fun k h => (by cases h), kL, gL, compL, hLk⟩, fL⟩
    | k + 2, hq => simp at hq
  have hnw : NW s := by
    intro w hw hn
    have h0 := hts w hw
    cases w with
    | fieldLinkNest => exact va_Nw.of rfl h0
    | methodLinkNest => exact va_Nw.of rfl h0
    | _ => exact absurd hn (by simp [isNest])
  have hl := lv_entry ([.ref b]) (n := 4) (Nat.le_of_ble_eq_true rfl)
  rw [lg_entry_eq]
  have G := law_enter (l, (dC, dI), cI, cL) (p, e, room_1, s, m, #[Value.ref b], below, meth, c, (fun q : Nat => s.heap.size ≤ q), lw_Z below #[Value.ref b] s) b L xs
    ⟨hx, hb, hml, hown, htg, hlocks, hr, hK, hnw, fun _ h => h, rfl⟩ ⟨rfl, rfl, fun _ h => h, rfl⟩ ⟨hX, hbl, Nat.not_le.mpr hbl⟩ hL
  exact G s.heap [] _ (fun k q h => by simp at h) ⟨fun i j p q h => by simp at h, fun k q h => by simp at h⟩ va_S.rf (by rw [hml]; exact hl)
