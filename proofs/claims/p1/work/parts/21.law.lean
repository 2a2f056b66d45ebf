-- ===== end of PART A; then your names; then what follows =====
/-! THE CLAIM OUT OF ONE WALK OF THE LAW'S BODY. Your part is whole_start (and what it stands on); all else here is the same for every law, but numbers. -/
def R_law : String := "MeshSumsLaw"
def lw_P (b : Addr) (xs : List Int32) (args : Array Value) (s : State) : Prop := args = #[.ref b] ∧ s.IntsAt b xs ∧ xs.length ≤ 4 ∧ (Jvm.Cond.and given_1 narrow_1).before args s = true
def lw_Q (_ : Array Value) (s : State) (o : Outcome) (t : State) : Prop := o = .returned (some (.int 1)) ∧ Framed s o t [] 600000 7302250
def lw_Z (below : List Frame) (a : Array Value) (s : State) : State → Prop := fun t => ∃ o, t.status = .running ∧ Ended t below o ∧ lw_Q a s o t
/-- the law's own end, with 1 on the stack, nothing written that was there before, its room as the claim has it -/
theorem lw_ret {p : Program} {l : Launch} {e : Env} {s : State} {m : MethodId} {below : List Frame} {meth : Method} {c : Code} {b : Nat} (hx : p.tables.exec = Jvm.exec) (hb : c.code = code) (hr : meth.sig.returnType = ret) (hlocks : meth.locks = false) {pc : Nat} {H : Heap} {ls : Array Slot} (hdg : decode code pc = .ok (.ireturn, 1)) : W p l e room_1 s m #[Value.ref b] below meth c H [] 600000 7302250 (lw_Z below #[Value.ref b] s) (F0 m pc ls [.int 1]) := by
  intro T hT X
  obtain ⟨fs, hret, hrun, hended, hW, hframe⟩ := X.leave (v := some (.int 1)) (hlocks := hlocks) (fun h => by rw [hr] at h; cases h)
  have hmeth' : T.vm.method? m = some meth := X.method'
  refine ⟨T.setFrames fs, ?_, .returned (some (.int 1)), hrun, hended, rfl, ⟨_, rfl⟩, hW, hframe⟩
  jvm_step X.here [X.here.top, hx, hb, hdg, hmeth', hr, ret, narrow_b1]
  (try refine ⟨rfl, ?_⟩); (try refine ⟨rfl, ?_⟩)
  first | (intro acts; rw [hret _ acts rfl rfl rfl]) | rw [hret _ _ rfl rfl rfl]
  exact Steps.refl _
/-- what holds at the law's entry: the machine, the code, the tables' words (any of lw_tbl by 'hts w (by decide +kernel)'), the script of L ints xs at the cell b, what the Statement gives of the start (any of its parts by flat_of_before) -/
def lw_At (p : Program) (s : State) (m : MethodId) (meth : Method) (c : Code) (b L : Nat) (xs : Nat → Int32) : Prop :=
  p.tables.exec = Jvm.exec ∧ c.code = code ∧ meth.sig.returnType = ret ∧ c.maxLocals = 4 ∧ s.vm.findClass R_law = some m.cls ∧ (∀ w ∈ lw_tbl, w.before #[Value.ref b] s = true) ∧ va_X b L xs s s.heap ∧ b < s.heap.size ∧ meth.locks = false ∧ (Jvm.Cond.and given_1 narrow_1).before #[Value.ref b] s = true

def Sc (X : Fx) (b L : Nat) (xs : Nat → Int32) : Prop :=
  match X with
  | (_, _, _, s, _, _, _, _, _, A, _) => va_X b L xs s s.heap ∧ b < s.heap.size ∧ ¬ A b
def Lq (X : Fx) (b : Nat) : Prop :=
  match X with
  | (_, _, R, s, _, args, below, _, _, A, Q) => Q = lw_Z below #[Value.ref b] s ∧ args = #[Value.ref b] ∧ (∀ q, A q → s.heap.size ≤ q) ∧ R = room_1
section LG
variable {E : En} {X : Fx} {cc : ByteArray} {nL : Nat} {own : String} {rt : Option FieldType} {fr lo rc rs : Nat} {ws : va_W} {k n pc : Nat} {lv : List (Nat × Value)} {rest : List Value} {b L : Nat} {xs : Nat → Int32}
theorem mg_sld (C : Cx E X cc nL own rt fr lo rc rs) (hs : Sc X b L xs) {i : Int32} (hin : vp_in i L) (hdg : decode cc pc = .ok (.iaload, 1)) (kk : GG E X ws k n (pc + 1) lv (.int (xs i.toNatClampNeg) :: rest)) : GG E X ws k n pc lv (.int i :: .ref b :: rest) := by
  obtain ⟨p, e, R, s, m, args, below, meth, c, A, Q⟩ := X
  obtain ⟨hx, hb, hml, hown, hts, hlk, hrt, hK, hnw, hA, hR⟩ := C
  obtain ⟨h1, h2, h3⟩ := hs
  intro H locs ls hP hD hS hl
  exact va_sld hx hb h1 h2 h3 hS hin hdg (kk H locs ls hP hD hS hl)
theorem mg_slen (C : Cx E X cc nL own rt fr lo rc rs) (hs : Sc X b L xs) (hdg : decode cc pc = .ok (.arraylength, 1)) (kk : GG E X ws k n (pc + 1) lv (.int (nI L) :: rest)) : GG E X ws k n pc lv (.ref b :: rest) := by
  obtain ⟨p, e, R, s, m, args, below, meth, c, A, Q⟩ := X
  obtain ⟨hx, hb, hml, hown, hts, hlk, hrt, hK, hnw, hA, hR⟩ := C
  obtain ⟨h1, h2, h3⟩ := hs
  intro H locs ls hP hD hS hl
  exact va_slen hx hb h1 h2 h3 hS hdg (kk H locs ls hP hD hS hl)
theorem mg_lawret (C : Cx E X code nL own ret fr lo rc rs) (hq : Lq X b) (h1 : Nat.ble k 600000 = true) (h2 : Nat.ble n 7302250 = true) (hdg : decode code pc = .ok (.ireturn, 1)) : GG E X ws k n pc lv [.int 1] := by
  obtain ⟨p, e, R, s, m, args, below, meth, c, A, Q⟩ := X
  obtain ⟨hx, hb, hml, hown, hts, hlk, hrt, hK, hnw, hA, hR⟩ := C
  obtain ⟨e1, e2, e3, e4⟩ := hq
  subst e1; subst e2; subst e4
  intro H locs ls hP hD hS hl
  refine va_forget (fun q hq => e3 _ (hS.2.2 q hq)) ?_
  refine W.widen (Nat.le_of_ble_eq_true h1) (Nat.le_of_ble_eq_true h2) ?_
  exact lw_ret hx hb hrt hlk hdg
end LG
theorem lgc0 {x : Int64} : lg_cmp x x = 0 := by
  unfold lg_cmp
  rw [if_neg (Int64.lt_irrefl), if_pos rfl]
theorem xs_in {j : Nat} (h : j < 4) : vp_in (nI j) 4 := vp_in_nI h (by decide)
theorem lawin1 : vp_in (0 + 1) 4 := by unfold vp_in; decide
theorem lawin2 : vp_in (0 + 2) 4 := by unfold vp_in; decide
theorem lawin3 : vp_in (0 + 3) 4 := by unfold vp_in; decide
theorem lawin0 : vp_in 0 4 := by unfold vp_in; decide
set_option maxHeartbeats 400000 in
set_option maxRecDepth 100000 in
theorem law_out (E : En) (X : Fx) (adc adm : Nat → Nat) (b : Nat) (xs : Nat → Int32) (C : Cx E X code 4 RL ret 8 288 600000 7302250) (hq : Lq X b) (hs : Sc X b 4 xs) (ws : va_W) (k n : Nat) (h1 : Nat.ble k 600000 = true) (h2 : Nat.ble n 7302250 = true) : GG E X ws k n 826 [(0, .ref b), (1, .ref (adc 19)), (2, .ref (adm 17)), (3, .int 0)] [] := by
  refine mg_iinc C dL_law_826 rfl rfl ?_
  refine mg_lve (lv' := [(0, .ref b), (1, .ref (adc 19)), (2, .ref (adm 17)), (3, .int 4)]) rfl ?_
  refine mg_goto C 18 dL_law_829 (by decide) ?_
  refine mg_iload_n C dL_law_18 rfl ?_
  refine mg_aload_n C dL_law_19 rfl ?_
  refine mg_slen C hs dL_law_20 ?_
  refine mg_iconst (v := 4) C dL_law_21 (by decide) ?_
  refine mg_isub C dL_law_22 ?_
  refine mg_icmp_gt C 832 dL_law_23 (by decide) (fun _ => ?_) (fun hh => absurd (by decide) hh)
  refine mg_iconst (v := 1) C dL_law_832 (by decide) ?_
  exact mg_lawret C hq h1 h2 dL_law_833
set_option maxHeartbeats 400000 in
set_option maxRecDepth 100000 in
theorem law_c0 (E : En) (X : Fx) (adc adm : Nat → Nat) (b : Nat) (xs : Nat → Int32) (C : Cx E X code 4 RL ret 8 288 600000 7302250) (hq : Lq X b) (hs : Sc X b 4 xs) : GG E X (cw E adc 16 gF aF vF (mw E adm gF aF vF [])) 38 60361 148 [(0, .ref b), (1, .ref (adc 19)), (2, .ref (adm 17)), (3, .int 0)] [] := by
  have fin : ∀ (ws : va_W) (k n : Nat), Nat.ble k 600000 = true → Nat.ble n 7302250 = true → GG E X ws k n 826 [(0, .ref b), (1, .ref (adc 19)), (2, .ref (adm 17)), (3, .int 0)] [] := law_out E X adc adm b xs C hq hs
  refine mg_aload_n C dL_law_148 rfl ?_
  refine mg_aload_n C dL_law_149 rfl ?_
  refine mg_iload_n C dL_law_150 rfl ?_
  refine mg_iconst (v := 1) C dL_law_151 (by decide) ?_
  refine mg_iadd C dL_law_152 ?_
  refine mg_sld C hs lawin1 dL_law_153 ?_
  refine mg_aload_n C dL_law_154 rfl ?_
  refine mg_iload_n C dL_law_155 rfl ?_
  refine mg_iconst (v := 2) C dL_law_156 (by decide) ?_
  refine mg_iadd C dL_law_157 ?_
  refine mg_sld C hs lawin2 dL_law_158 ?_
  refine mg_aload_n C dL_law_159 rfl ?_
  refine mg_iload_n C dL_law_160 rfl ?_
  refine mg_iconst (v := 3) C dL_law_161 (by decide) ?_
  refine mg_iadd C dL_law_162 ?_
  refine mg_sld C hs lawin3 dL_law_163 ?_
  refine mg_callV C (ct_X4_mesh E _ _ _ _ _) oL_13 19 rfl rfl rfl rfl rfl dL_law_164 (fun o1 w1 z1 => ?_)
  obtain ⟨rfl, Lz, rfl⟩ := z1
  refine mg_v ?_
  refine mg_swap ?_
  refine mg_ws (ws' := mw E adm gF aF vF Lz) rfl ?_
  refine mg_aload_n C dL_law_167 rfl ?_
  refine mg_aload_n C dL_law_168 rfl ?_
  refine mg_iload_n C dL_law_169 rfl ?_
  refine mg_iconst (v := 1) C dL_law_170 (by decide) ?_
  refine mg_iadd C dL_law_171 ?_
  refine mg_sld C hs lawin1 dL_law_172 ?_
  refine mg_aload_n C dL_law_173 rfl ?_
  refine mg_iload_n C dL_law_174 rfl ?_
  refine mg_iconst (v := 2) C dL_law_175 (by decide) ?_
  refine mg_iadd C dL_law_176 ?_
  refine mg_sld C hs lawin2 dL_law_177 ?_
  refine mg_aload_n C dL_law_178 rfl ?_
  refine mg_iload_n C dL_law_179 rfl ?_
  refine mg_iconst (v := 3) C dL_law_180 (by decide) ?_
  refine mg_iadd C dL_law_181 ?_
  refine mg_sld C hs lawin3 dL_law_182 ?_
  refine mg_callV C (ct_X5_mesh E _ _ _ _ _) oL_17 17 rfl rfl rfl rfl rfl dL_law_183 (fun o2 w2 z2 => ?_)
  obtain ⟨rfl, -⟩ := z2
  refine mg_v ?_
  refine mg_icmp_eq C 826 dL_law_186 (by decide) (fun _ => ?_) (fun hne => absurd rfl hne)
  exact fin _ _ _ rfl rfl
set_option maxHeartbeats 400000 in
set_option maxRecDepth 100000 in
theorem law_c1 (E : En) (X : Fx) (adc adm : Nat → Nat) (b : Nat) (xs : Nat → Int32) (C : Cx E X code 4 RL ret 8 288 600000 7302250) (hq : Lq X b) (hs : Sc X b 4 xs) : GG E X (cw E adc 16 gF aF vF (mw E adm gF aF vF [])) 38 60361 191 [(0, .ref b), (1, .ref (adc 19)), (2, .ref (adm 17)), (3, .int 0)] [] := by
  have fin : ∀ (ws : va_W) (k n : Nat), Nat.ble k 600000 = true → Nat.ble n 7302250 = true → GG E X ws k n 826 [(0, .ref b), (1, .ref (adc 19)), (2, .ref (adm 17)), (3, .int 0)] [] := law_out E X adc adm b xs C hq hs
  refine mg_aload_n C dL_law_191 rfl ?_
  refine mg_aload_n C dL_law_192 rfl ?_
  refine mg_iload_n C dL_law_193 rfl ?_
  refine mg_iconst (v := 1) C dL_law_194 (by decide) ?_
  refine mg_iadd C dL_law_195 ?_
  refine mg_sld C hs lawin1 dL_law_196 ?_
  refine mg_aload_n C dL_law_197 rfl ?_
  refine mg_iload_n C dL_law_198 rfl ?_
  refine mg_iconst (v := 2) C dL_law_199 (by decide) ?_
  refine mg_iadd C dL_law_200 ?_
  refine mg_sld C hs lawin2 dL_law_201 ?_
  refine mg_aload_n C dL_law_202 rfl ?_
  refine mg_iload_n C dL_law_203 rfl ?_
  refine mg_iconst (v := 3) C dL_law_204 (by decide) ?_
  refine mg_iadd C dL_law_205 ?_
  refine mg_sld C hs lawin3 dL_law_206 ?_
  refine mg_callV C (ct_X4_write E _ _ _ _ _) oL_18 19 rfl rfl rfl rfl rfl dL_law_207 (fun o1 w1 z1 => ?_)
  obtain ⟨rfl, Lz, rfl⟩ := z1
  refine mg_v ?_
  refine mg_swap ?_
  refine mg_ws (ws' := mw E adm gF aF vF Lz) rfl ?_
  refine mg_aload_n C dL_law_210 rfl ?_
  refine mg_aload_n C dL_law_211 rfl ?_
  refine mg_iload_n C dL_law_212 rfl ?_
  refine mg_iconst (v := 1) C dL_law_213 (by decide) ?_
  refine mg_iadd C dL_law_214 ?_
  refine mg_sld C hs lawin1 dL_law_215 ?_
  refine mg_aload_n C dL_law_216 rfl ?_
  refine mg_iload_n C dL_law_217 rfl ?_
  refine mg_iconst (v := 2) C dL_law_218 (by decide) ?_
  refine mg_iadd C dL_law_219 ?_
  refine mg_sld C hs lawin2 dL_law_220 ?_
  refine mg_aload_n C dL_law_221 rfl ?_
  refine mg_iload_n C dL_law_222 rfl ?_
  refine mg_iconst (v := 3) C dL_law_223 (by decide) ?_
  refine mg_iadd C dL_law_224 ?_
  refine mg_sld C hs lawin3 dL_law_225 ?_
  refine mg_callV C (ct_X5_write E _ _ _ _ _) oL_21 17 rfl rfl rfl rfl rfl dL_law_226 (fun o2 w2 z2 => ?_)
  obtain ⟨rfl, -⟩ := z2
  refine mg_v ?_
  refine mg_icmp_eq C 826 dL_law_229 (by decide) (fun _ => ?_) (fun hne => absurd rfl hne)
  exact fin _ _ _ rfl rfl
set_option maxHeartbeats 400000 in
set_option maxRecDepth 100000 in
theorem law_c2 (E : En) (X : Fx) (adc adm : Nat → Nat) (b : Nat) (xs : Nat → Int32) (C : Cx E X code 4 RL ret 8 288 600000 7302250) (hq : Lq X b) (hs : Sc X b 4 xs) : GG E X (cw E adc 16 gF aF vF (mw E adm gF aF vF [])) 38 60361 234 [(0, .ref b), (1, .ref (adc 19)), (2, .ref (adm 17)), (3, .int 0)] [] := by
  have fin : ∀ (ws : va_W) (k n : Nat), Nat.ble k 600000 = true → Nat.ble n 7302250 = true → GG E X ws k n 826 [(0, .ref b), (1, .ref (adc 19)), (2, .ref (adm 17)), (3, .int 0)] [] := law_out E X adc adm b xs C hq hs
  refine mg_aload_n C dL_law_234 rfl ?_
  refine mg_aload_n C dL_law_235 rfl ?_
  refine mg_iload_n C dL_law_236 rfl ?_
  refine mg_iconst (v := 1) C dL_law_237 (by decide) ?_
  refine mg_iadd C dL_law_238 ?_
  refine mg_sld C hs lawin1 dL_law_239 ?_
  refine mg_aload_n C dL_law_240 rfl ?_
  refine mg_iload_n C dL_law_241 rfl ?_
  refine mg_iconst (v := 2) C dL_law_242 (by decide) ?_
  refine mg_iadd C dL_law_243 ?_
  refine mg_sld C hs lawin2 dL_law_244 ?_
  refine mg_aload_n C dL_law_245 rfl ?_
  refine mg_iload_n C dL_law_246 rfl ?_
  refine mg_iconst (v := 3) C dL_law_247 (by decide) ?_
  refine mg_iadd C dL_law_248 ?_
  refine mg_sld C hs lawin3 dL_law_249 ?_
  refine mg_callV C (ct_X4_stick E _ _ _ _ _) oL_22 19 rfl rfl rfl rfl rfl dL_law_250 (fun o1 w1 z1 => ?_)
  obtain ⟨rfl, Lz, rfl⟩ := z1
  refine mg_v ?_
  refine mg_swap ?_
  refine mg_ws (ws' := mw E adm gF aF vF Lz) rfl ?_
  refine mg_aload_n C dL_law_253 rfl ?_
  refine mg_aload_n C dL_law_254 rfl ?_
  refine mg_iload_n C dL_law_255 rfl ?_
  refine mg_iconst (v := 1) C dL_law_256 (by decide) ?_
  refine mg_iadd C dL_law_257 ?_
  refine mg_sld C hs lawin1 dL_law_258 ?_
  refine mg_aload_n C dL_law_259 rfl ?_
  refine mg_iload_n C dL_law_260 rfl ?_
  refine mg_iconst (v := 2) C dL_law_261 (by decide) ?_
  refine mg_iadd C dL_law_262 ?_
  refine mg_sld C hs lawin2 dL_law_263 ?_
  refine mg_aload_n C dL_law_264 rfl ?_
  refine mg_iload_n C dL_law_265 rfl ?_
  refine mg_iconst (v := 3) C dL_law_266 (by decide) ?_
  refine mg_iadd C dL_law_267 ?_
  refine mg_sld C hs lawin3 dL_law_268 ?_
  refine mg_callV C (ct_X5_stick E _ _ _ _ _) oL_25 17 rfl rfl rfl rfl rfl dL_law_269 (fun o2 w2 z2 => ?_)
  obtain ⟨rfl, -⟩ := z2
  refine mg_v ?_
  refine mg_icmp_eq C 826 dL_law_272 (by decide) (fun _ => ?_) (fun hne => absurd rfl hne)
  exact fin _ _ _ rfl rfl
set_option maxHeartbeats 400000 in
set_option maxRecDepth 100000 in
theorem law_c3 (E : En) (X : Fx) (adc adm : Nat → Nat) (b : Nat) (xs : Nat → Int32) (C : Cx E X code 4 RL ret 8 288 600000 7302250) (hq : Lq X b) (hs : Sc X b 4 xs) : GG E X (cw E adc 16 gF aF vF (mw E adm gF aF vF [])) 38 60361 277 [(0, .ref b), (1, .ref (adc 19)), (2, .ref (adm 17)), (3, .int 0)] [] := by
  have fin : ∀ (ws : va_W) (k n : Nat), Nat.ble k 600000 = true → Nat.ble n 7302250 = true → GG E X ws k n 826 [(0, .ref b), (1, .ref (adc 19)), (2, .ref (adm 17)), (3, .int 0)] [] := law_out E X adc adm b xs C hq hs
  refine mg_aload_n C dL_law_277 rfl ?_
  refine mg_aload_n C dL_law_278 rfl ?_
  refine mg_iload_n C dL_law_279 rfl ?_
  refine mg_iconst (v := 1) C dL_law_280 (by decide) ?_
  refine mg_iadd C dL_law_281 ?_
  refine mg_sld C hs lawin1 dL_law_282 ?_
  refine mg_aload_n C dL_law_283 rfl ?_
  refine mg_iload_n C dL_law_284 rfl ?_
  refine mg_iconst (v := 2) C dL_law_285 (by decide) ?_
  refine mg_iadd C dL_law_286 ?_
  refine mg_sld C hs lawin2 dL_law_287 ?_
  refine mg_aload_n C dL_law_288 rfl ?_
  refine mg_iload_n C dL_law_289 rfl ?_
  refine mg_iconst (v := 3) C dL_law_290 (by decide) ?_
  refine mg_iadd C dL_law_291 ?_
  refine mg_sld C hs lawin3 dL_law_292 ?_
  refine mg_callV C (ct_X4_cell E _ _ _ _ _) oL_26 19 rfl rfl rfl rfl rfl dL_law_293 (fun o1 w1 z1 => ?_)
  obtain ⟨rfl, Lz, rfl⟩ := z1
  refine mg_v ?_
  refine mg_swap ?_
  refine mg_ws (ws' := mw E adm gF aF vF Lz) rfl ?_
  refine mg_aload_n C dL_law_296 rfl ?_
  refine mg_aload_n C dL_law_297 rfl ?_
  refine mg_iload_n C dL_law_298 rfl ?_
  refine mg_iconst (v := 1) C dL_law_299 (by decide) ?_
  refine mg_iadd C dL_law_300 ?_
  refine mg_sld C hs lawin1 dL_law_301 ?_
  refine mg_aload_n C dL_law_302 rfl ?_
  refine mg_iload_n C dL_law_303 rfl ?_
  refine mg_iconst (v := 2) C dL_law_304 (by decide) ?_
  refine mg_iadd C dL_law_305 ?_
  refine mg_sld C hs lawin2 dL_law_306 ?_
  refine mg_aload_n C dL_law_307 rfl ?_
  refine mg_iload_n C dL_law_308 rfl ?_
  refine mg_iconst (v := 3) C dL_law_309 (by decide) ?_
  refine mg_iadd C dL_law_310 ?_
  refine mg_sld C hs lawin3 dL_law_311 ?_
  refine mg_callV C (ct_X5_cell E _ _ _ _ _) oL_29 17 rfl rfl rfl rfl rfl dL_law_312 (fun o2 w2 z2 => ?_)
  obtain ⟨rfl, -⟩ := z2
  refine mg_v ?_
  refine mg_icmp_eq C 826 dL_law_315 (by decide) (fun _ => ?_) (fun hne => absurd rfl hne)
  exact fin _ _ _ rfl rfl
set_option maxHeartbeats 400000 in
set_option maxRecDepth 100000 in
theorem law_c4 (E : En) (X : Fx) (adc adm : Nat → Nat) (b : Nat) (xs : Nat → Int32) (C : Cx E X code 4 RL ret 8 288 600000 7302250) (hq : Lq X b) (hs : Sc X b 4 xs) : GG E X (cw E adc 16 gF aF vF (mw E adm gF aF vF [])) 38 60361 320 [(0, .ref b), (1, .ref (adc 19)), (2, .ref (adm 17)), (3, .int 0)] [] := by
  have fin : ∀ (ws : va_W) (k n : Nat), Nat.ble k 600000 = true → Nat.ble n 7302250 = true → GG E X ws k n 826 [(0, .ref b), (1, .ref (adc 19)), (2, .ref (adm 17)), (3, .int 0)] [] := law_out E X adc adm b xs C hq hs
  refine mg_aload_n C dL_law_320 rfl ?_
  refine mg_aload_n C dL_law_321 rfl ?_
  refine mg_iload_n C dL_law_322 rfl ?_
  refine mg_iconst (v := 1) C dL_law_323 (by decide) ?_
  refine mg_iadd C dL_law_324 ?_
  refine mg_sld C hs lawin1 dL_law_325 ?_
  refine mg_aload_n C dL_law_326 rfl ?_
  refine mg_iload_n C dL_law_327 rfl ?_
  refine mg_iconst (v := 2) C dL_law_328 (by decide) ?_
  refine mg_iadd C dL_law_329 ?_
  refine mg_sld C hs lawin2 dL_law_330 ?_
  refine mg_callV C (ct_X4_input E _ _ _ _) oL_30 19 rfl rfl rfl rfl rfl dL_law_331 (fun o1 w1 z1 => ?_)
  obtain ⟨rfl, Lz, rfl⟩ := z1
  refine mg_v ?_
  refine mg_swap ?_
  refine mg_ws (ws' := mw E adm gF aF vF Lz) rfl ?_
  refine mg_aload_n C dL_law_334 rfl ?_
  refine mg_aload_n C dL_law_335 rfl ?_
  refine mg_iload_n C dL_law_336 rfl ?_
  refine mg_iconst (v := 1) C dL_law_337 (by decide) ?_
  refine mg_iadd C dL_law_338 ?_
  refine mg_sld C hs lawin1 dL_law_339 ?_
  refine mg_aload_n C dL_law_340 rfl ?_
  refine mg_iload_n C dL_law_341 rfl ?_
  refine mg_iconst (v := 2) C dL_law_342 (by decide) ?_
  refine mg_iadd C dL_law_343 ?_
  refine mg_sld C hs lawin2 dL_law_344 ?_
  refine mg_callV C (ct_X5_input E _ _ _ _) oL_34 17 rfl rfl rfl rfl rfl dL_law_345 (fun o2 w2 z2 => ?_)
  obtain ⟨rfl, -⟩ := z2
  refine mg_v ?_
  refine mg_icmp_eq C 826 dL_law_348 (by decide) (fun _ => ?_) (fun hne => absurd rfl hne)
  exact fin _ _ _ rfl rfl
set_option maxHeartbeats 400000 in
set_option maxRecDepth 100000 in
theorem law_c5 (E : En) (X : Fx) (adc adm : Nat → Nat) (b : Nat) (xs : Nat → Int32) (C : Cx E X code 4 RL ret 8 288 600000 7302250) (hq : Lq X b) (hs : Sc X b 4 xs) : GG E X (cw E adc 16 gF aF vF (mw E adm gF aF vF [])) 38 60361 353 [(0, .ref b), (1, .ref (adc 19)), (2, .ref (adm 17)), (3, .int 0)] [] := by
  have fin : ∀ (ws : va_W) (k n : Nat), Nat.ble k 600000 = true → Nat.ble n 7302250 = true → GG E X ws k n 826 [(0, .ref b), (1, .ref (adc 19)), (2, .ref (adm 17)), (3, .int 0)] [] := law_out E X adc adm b xs C hq hs
  refine mg_aload_n C dL_law_353 rfl ?_
  refine mg_aload_n C dL_law_354 rfl ?_
  refine mg_iload_n C dL_law_355 rfl ?_
  refine mg_iconst (v := 1) C dL_law_356 (by decide) ?_
  refine mg_iadd C dL_law_357 ?_
  refine mg_sld C hs lawin1 dL_law_358 ?_
  refine mg_callV C (ct_X4_bits E _ _ _) oL_35 19 rfl rfl rfl rfl rfl dL_law_359 (fun o1 w1 z1 => ?_)
  obtain ⟨rfl, Lz, rfl⟩ := z1
  refine mg_v ?_
  refine mg_swap ?_
  refine mg_ws (ws' := mw E adm gF aF vF Lz) rfl ?_
  refine mg_aload_n C dL_law_362 rfl ?_
  refine mg_aload_n C dL_law_363 rfl ?_
  refine mg_iload_n C dL_law_364 rfl ?_
  refine mg_iconst (v := 1) C dL_law_365 (by decide) ?_
  refine mg_iadd C dL_law_366 ?_
  refine mg_sld C hs lawin1 dL_law_367 ?_
  refine mg_callV C (ct_X5_bits E _ _ _) oL_39 17 rfl rfl rfl rfl rfl dL_law_368 (fun o2 w2 z2 => ?_)
  obtain ⟨rfl, -⟩ := z2
  refine mg_v ?_
  refine mg_icmp_eq C 826 dL_law_371 (by decide) (fun _ => ?_) (fun hne => absurd rfl hne)
  exact fin _ _ _ rfl rfl
set_option maxHeartbeats 400000 in
set_option maxRecDepth 100000 in
theorem law_c6 (E : En) (X : Fx) (adc adm : Nat → Nat) (b : Nat) (xs : Nat → Int32) (C : Cx E X code 4 RL ret 8 288 600000 7302250) (hq : Lq X b) (hs : Sc X b 4 xs) : GG E X (cw E adc 16 gF aF vF (mw E adm gF aF vF [])) 38 60361 376 [(0, .ref b), (1, .ref (adc 19)), (2, .ref (adm 17)), (3, .int 0)] [] := by
  have fin : ∀ (ws : va_W) (k n : Nat), Nat.ble k 600000 = true → Nat.ble n 7302250 = true → GG E X ws k n 826 [(0, .ref b), (1, .ref (adc 19)), (2, .ref (adm 17)), (3, .int 0)] [] := law_out E X adc adm b xs C hq hs
  refine mg_aload_n C dL_law_376 rfl ?_
  refine mg_aload_n C dL_law_377 rfl ?_
  refine mg_iload_n C dL_law_378 rfl ?_
  refine mg_iconst (v := 1) C dL_law_379 (by decide) ?_
  refine mg_iadd C dL_law_380 ?_
  refine mg_sld C hs lawin1 dL_law_381 ?_
  refine mg_callV C (ct_X4_sum E _ _ _) oL_40 19 rfl rfl rfl rfl rfl dL_law_382 (fun o1 w1 z1 => ?_)
  obtain ⟨rfl, Lz, rfl⟩ := z1
  refine mg_v ?_
  refine mg_swap ?_
  refine mg_ws (ws' := mw E adm gF aF vF Lz) rfl ?_
  refine mg_aload_n C dL_law_385 rfl ?_
  refine mg_aload_n C dL_law_386 rfl ?_
  refine mg_iload_n C dL_law_387 rfl ?_
  refine mg_iconst (v := 1) C dL_law_388 (by decide) ?_
  refine mg_iadd C dL_law_389 ?_
  refine mg_sld C hs lawin1 dL_law_390 ?_
  refine mg_callV C (ct_X5_sum E _ _ _) oL_43 17 rfl rfl rfl rfl rfl dL_law_391 (fun o2 w2 z2 => ?_)
  obtain ⟨rfl, -⟩ := z2
  refine mg_v ?_
  refine mg_icmp_eq C 826 dL_law_394 (by decide) (fun _ => ?_) (fun hne => absurd rfl hne)
  exact fin _ _ _ rfl rfl
set_option maxHeartbeats 400000 in
set_option maxRecDepth 100000 in
theorem law_c7 (E : En) (X : Fx) (adc adm : Nat → Nat) (b : Nat) (xs : Nat → Int32) (C : Cx E X code 4 RL ret 8 288 600000 7302250) (hq : Lq X b) (hs : Sc X b 4 xs) : GG E X (cw E adc 16 gF aF vF (mw E adm gF aF vF [])) 38 60361 399 [(0, .ref b), (1, .ref (adc 19)), (2, .ref (adm 17)), (3, .int 0)] [] := by
  have fin : ∀ (ws : va_W) (k n : Nat), Nat.ble k 600000 = true → Nat.ble n 7302250 = true → GG E X ws k n 826 [(0, .ref b), (1, .ref (adc 19)), (2, .ref (adm 17)), (3, .int 0)] [] := law_out E X adc adm b xs C hq hs
  refine mg_aload_n C dL_law_399 rfl ?_
  refine mg_aload_n C dL_law_400 rfl ?_
  refine mg_iload_n C dL_law_401 rfl ?_
  refine mg_iconst (v := 1) C dL_law_402 (by decide) ?_
  refine mg_iadd C dL_law_403 ?_
  refine mg_sld C hs lawin1 dL_law_404 ?_
  refine mg_aload_n C dL_law_405 rfl ?_
  refine mg_iload_n C dL_law_406 rfl ?_
  refine mg_iconst (v := 2) C dL_law_407 (by decide) ?_
  refine mg_iadd C dL_law_408 ?_
  refine mg_sld C hs lawin2 dL_law_409 ?_
  refine mg_aload_n C dL_law_410 rfl ?_
  refine mg_iload_n C dL_law_411 rfl ?_
  refine mg_iconst (v := 3) C dL_law_412 (by decide) ?_
  refine mg_iadd C dL_law_413 ?_
  refine mg_sld C hs lawin3 dL_law_414 ?_
  refine mg_callV C (ct_X4_table E _ _ _ _ _) oL_44 19 rfl rfl rfl rfl rfl dL_law_415 (fun o1 w1 z1 => ?_)
  obtain ⟨rfl, Lz, rfl⟩ := z1
  refine mg_v ?_
  refine mg_swap ?_
  refine mg_ws (ws' := mw E adm gF aF vF Lz) rfl ?_
  refine mg_aload_n C dL_law_418 rfl ?_
  refine mg_aload_n C dL_law_419 rfl ?_
  refine mg_iload_n C dL_law_420 rfl ?_
  refine mg_iconst (v := 1) C dL_law_421 (by decide) ?_
  refine mg_iadd C dL_law_422 ?_
  refine mg_sld C hs lawin1 dL_law_423 ?_
  refine mg_aload_n C dL_law_424 rfl ?_
  refine mg_iload_n C dL_law_425 rfl ?_
  refine mg_iconst (v := 2) C dL_law_426 (by decide) ?_
  refine mg_iadd C dL_law_427 ?_
  refine mg_sld C hs lawin2 dL_law_428 ?_
  refine mg_aload_n C dL_law_429 rfl ?_
  refine mg_iload_n C dL_law_430 rfl ?_
  refine mg_iconst (v := 3) C dL_law_431 (by decide) ?_
  refine mg_iadd C dL_law_432 ?_
  refine mg_sld C hs lawin3 dL_law_433 ?_
  refine mg_callV C (ct_X5_table E _ _ _ _ _) oL_47 17 rfl rfl rfl rfl rfl dL_law_434 (fun o2 w2 z2 => ?_)
  obtain ⟨rfl, -⟩ := z2
  refine mg_v ?_
  refine mg_icmp_eq C 826 dL_law_437 (by decide) (fun _ => ?_) (fun hne => absurd rfl hne)
  exact fin _ _ _ rfl rfl
set_option maxHeartbeats 400000 in
set_option maxRecDepth 100000 in
theorem law_c8 (E : En) (X : Fx) (adc adm : Nat → Nat) (b : Nat) (xs : Nat → Int32) (C : Cx E X code 4 RL ret 8 288 600000 7302250) (hq : Lq X b) (hs : Sc X b 4 xs) : GG E X (cw E adc 16 gF aF vF (mw E adm gF aF vF [])) 38 60361 442 [(0, .ref b), (1, .ref (adc 19)), (2, .ref (adm 17)), (3, .int 0)] [] := by
  have fin : ∀ (ws : va_W) (k n : Nat), Nat.ble k 600000 = true → Nat.ble n 7302250 = true → GG E X ws k n 826 [(0, .ref b), (1, .ref (adc 19)), (2, .ref (adm 17)), (3, .int 0)] [] := law_out E X adc adm b xs C hq hs
  refine mg_aload_n C dL_law_442 rfl ?_
  refine mg_aload_n C dL_law_443 rfl ?_
  refine mg_iload_n C dL_law_444 rfl ?_
  refine mg_iconst (v := 1) C dL_law_445 (by decide) ?_
  refine mg_iadd C dL_law_446 ?_
  refine mg_sld C hs lawin1 dL_law_447 ?_
  refine mg_aload_n C dL_law_448 rfl ?_
  refine mg_iload_n C dL_law_449 rfl ?_
  refine mg_iconst (v := 2) C dL_law_450 (by decide) ?_
  refine mg_iadd C dL_law_451 ?_
  refine mg_sld C hs lawin2 dL_law_452 ?_
  refine mg_aload_n C dL_law_453 rfl ?_
  refine mg_iload_n C dL_law_454 rfl ?_
  refine mg_iconst (v := 3) C dL_law_455 (by decide) ?_
  refine mg_iadd C dL_law_456 ?_
  refine mg_sld C hs lawin3 dL_law_457 ?_
  refine mg_callV C (ct_X4_number E _ _ _ _ _) oL_48 19 rfl rfl rfl rfl rfl dL_law_458 (fun o1 w1 z1 => ?_)
  obtain ⟨rfl, Lz, rfl⟩ := z1
  refine mg_v ?_
  refine mg_swap ?_
  refine mg_ws (ws' := mw E adm gF aF vF Lz) rfl ?_
  refine mg_aload_n C dL_law_461 rfl ?_
  refine mg_aload_n C dL_law_462 rfl ?_
  refine mg_iload_n C dL_law_463 rfl ?_
  refine mg_iconst (v := 1) C dL_law_464 (by decide) ?_
  refine mg_iadd C dL_law_465 ?_
  refine mg_sld C hs lawin1 dL_law_466 ?_
  refine mg_aload_n C dL_law_467 rfl ?_
  refine mg_iload_n C dL_law_468 rfl ?_
  refine mg_iconst (v := 2) C dL_law_469 (by decide) ?_
  refine mg_iadd C dL_law_470 ?_
  refine mg_sld C hs lawin2 dL_law_471 ?_
  refine mg_aload_n C dL_law_472 rfl ?_
  refine mg_iload_n C dL_law_473 rfl ?_
  refine mg_iconst (v := 3) C dL_law_474 (by decide) ?_
  refine mg_iadd C dL_law_475 ?_
  refine mg_sld C hs lawin3 dL_law_476 ?_
  refine mg_callV C (ct_X5_number E _ _ _ _ _) oL_51 17 rfl rfl rfl rfl rfl dL_law_477 (fun o2 w2 z2 => ?_)
  obtain ⟨rfl, -⟩ := z2
  refine mg_v ?_
  refine mg_icmp_eq C 826 dL_law_480 (by decide) (fun _ => ?_) (fun hne => absurd rfl hne)
  exact fin _ _ _ rfl rfl
set_option maxHeartbeats 400000 in
set_option maxRecDepth 100000 in
theorem law_c9 (E : En) (X : Fx) (adc adm : Nat → Nat) (b : Nat) (xs : Nat → Int32) (C : Cx E X code 4 RL ret 8 288 600000 7302250) (hq : Lq X b) (hs : Sc X b 4 xs) : GG E X (cw E adc 16 gF aF vF (mw E adm gF aF vF [])) 38 60361 485 [(0, .ref b), (1, .ref (adc 19)), (2, .ref (adm 17)), (3, .int 0)] [] := by
  have fin : ∀ (ws : va_W) (k n : Nat), Nat.ble k 600000 = true → Nat.ble n 7302250 = true → GG E X ws k n 826 [(0, .ref b), (1, .ref (adc 19)), (2, .ref (adm 17)), (3, .int 0)] [] := law_out E X adc adm b xs C hq hs
  refine mg_aload_n C dL_law_485 rfl ?_
  refine mg_callV C (ct_X4_lay E _ _) oL_52 19 rfl rfl rfl rfl rfl dL_law_486 (fun o1 w1 z1 => ?_)
  obtain ⟨rfl, Lz, rfl⟩ := z1
  refine mg_v ?_
  refine mg_swap ?_
  refine mg_ws (ws' := mw E adm gF aF vF Lz) rfl ?_
  refine mg_aload_n C dL_law_489 rfl ?_
  refine mg_callV C (ct_X5_lay E _ _) oL_56 17 rfl rfl rfl rfl rfl dL_law_490 (fun o2 w2 z2 => ?_)
  obtain ⟨rfl, -⟩ := z2
  refine mg_v ?_
  refine mg_icmp_eq C 826 dL_law_493 (by decide) (fun _ => ?_) (fun hne => absurd rfl hne)
  exact fin _ _ _ rfl rfl
set_option maxHeartbeats 400000 in
set_option maxRecDepth 100000 in
theorem law_c10 (E : En) (X : Fx) (adc adm : Nat → Nat) (b : Nat) (xs : Nat → Int32) (C : Cx E X code 4 RL ret 8 288 600000 7302250) (hq : Lq X b) (hs : Sc X b 4 xs) : GG E X (cw E adc 16 gF aF vF (mw E adm gF aF vF [])) 38 60361 498 [(0, .ref b), (1, .ref (adc 19)), (2, .ref (adm 17)), (3, .int 0)] [] := by
  have fin : ∀ (ws : va_W) (k n : Nat), Nat.ble k 600000 = true → Nat.ble n 7302250 = true → GG E X ws k n 826 [(0, .ref b), (1, .ref (adc 19)), (2, .ref (adm 17)), (3, .int 0)] [] := law_out E X adc adm b xs C hq hs
  refine mg_aload_n C dL_law_498 rfl ?_
  refine mg_aload_n C dL_law_499 rfl ?_
  refine mg_iload_n C dL_law_500 rfl ?_
  refine mg_iconst (v := 1) C dL_law_501 (by decide) ?_
  refine mg_iadd C dL_law_502 ?_
  refine mg_sld C hs lawin1 dL_law_503 ?_
  refine mg_callV C (ct_X4_product E _ _ _) oL_57 19 rfl rfl rfl rfl rfl dL_law_504 (fun o1 w1 z1 => ?_)
  obtain ⟨rfl, Lz, rfl⟩ := z1
  refine mg_v ?_
  refine mg_swap ?_
  refine mg_ws (ws' := mw E adm gF aF vF Lz) rfl ?_
  refine mg_aload_n C dL_law_507 rfl ?_
  refine mg_aload_n C dL_law_508 rfl ?_
  refine mg_iload_n C dL_law_509 rfl ?_
  refine mg_iconst (v := 1) C dL_law_510 (by decide) ?_
  refine mg_iadd C dL_law_511 ?_
  refine mg_sld C hs lawin1 dL_law_512 ?_
  refine mg_callV C (ct_X5_product E _ _ _) oL_61 17 rfl rfl rfl rfl rfl dL_law_513 (fun o2 w2 z2 => ?_)
  obtain ⟨rfl, -⟩ := z2
  refine mg_v ?_
  refine mg_lcmp C dL_law_516 ?_
  refine mg_if_eq C 826 dL_law_517 (by decide) (fun _ => ?_) (fun hne => absurd lgc0 hne)
  exact fin _ _ _ rfl rfl
set_option maxHeartbeats 400000 in
set_option maxRecDepth 100000 in
theorem law_c11 (E : En) (X : Fx) (adc adm : Nat → Nat) (b : Nat) (xs : Nat → Int32) (C : Cx E X code 4 RL ret 8 288 600000 7302250) (hq : Lq X b) (hs : Sc X b 4 xs) : GG E X (cw E adc 16 gF aF vF (mw E adm gF aF vF [])) 38 60361 522 [(0, .ref b), (1, .ref (adc 19)), (2, .ref (adm 17)), (3, .int 0)] [] := by
  have fin : ∀ (ws : va_W) (k n : Nat), Nat.ble k 600000 = true → Nat.ble n 7302250 = true → GG E X ws k n 826 [(0, .ref b), (1, .ref (adc 19)), (2, .ref (adm 17)), (3, .int 0)] [] := law_out E X adc adm b xs C hq hs
  refine mg_aload_n C dL_law_522 rfl ?_
  refine mg_aload_n C dL_law_523 rfl ?_
  refine mg_iload_n C dL_law_524 rfl ?_
  refine mg_iconst (v := 1) C dL_law_525 (by decide) ?_
  refine mg_iadd C dL_law_526 ?_
  refine mg_sld C hs lawin1 dL_law_527 ?_
  refine mg_callV C (ct_X4_due E _ _ _) oL_62 19 rfl rfl rfl rfl rfl dL_law_528 (fun o1 w1 z1 => ?_)
  obtain ⟨rfl, Lz, rfl⟩ := z1
  refine mg_v ?_
  refine mg_swap ?_
  refine mg_ws (ws' := mw E adm gF aF vF Lz) rfl ?_
  refine mg_aload_n C dL_law_531 rfl ?_
  refine mg_aload_n C dL_law_532 rfl ?_
  refine mg_iload_n C dL_law_533 rfl ?_
  refine mg_iconst (v := 1) C dL_law_534 (by decide) ?_
  refine mg_iadd C dL_law_535 ?_
  refine mg_sld C hs lawin1 dL_law_536 ?_
  refine mg_callV C (ct_X5_due E _ _ _) oL_65 17 rfl rfl rfl rfl rfl dL_law_537 (fun o2 w2 z2 => ?_)
  obtain ⟨rfl, -⟩ := z2
  refine mg_v ?_
  refine mg_lcmp C dL_law_540 ?_
  refine mg_if_eq C 826 dL_law_541 (by decide) (fun _ => ?_) (fun hne => absurd lgc0 hne)
  exact fin _ _ _ rfl rfl
set_option maxHeartbeats 400000 in
set_option maxRecDepth 100000 in
theorem law_c12 (E : En) (X : Fx) (adc adm : Nat → Nat) (b : Nat) (xs : Nat → Int32) (C : Cx E X code 4 RL ret 8 288 600000 7302250) (hq : Lq X b) (hs : Sc X b 4 xs) : GG E X (cw E adc 16 gF aF vF (mw E adm gF aF vF [])) 38 60361 546 [(0, .ref b), (1, .ref (adc 19)), (2, .ref (adm 17)), (3, .int 0)] [] := by
  have fin : ∀ (ws : va_W) (k n : Nat), Nat.ble k 600000 = true → Nat.ble n 7302250 = true → GG E X ws k n 826 [(0, .ref b), (1, .ref (adc 19)), (2, .ref (adm 17)), (3, .int 0)] [] := law_out E X adc adm b xs C hq hs
  refine mg_aload_n C dL_law_546 rfl ?_
  refine mg_callV C (ct_X4_enough E _ _) oL_66 19 rfl rfl rfl rfl rfl dL_law_547 (fun o1 w1 z1 => ?_)
  obtain ⟨rfl, Lz, rfl⟩ := z1
  refine mg_v ?_
  refine mg_swap ?_
  refine mg_ws (ws' := mw E adm gF aF vF Lz) rfl ?_
  refine mg_aload_n C dL_law_550 rfl ?_
  refine mg_callV C (ct_X5_enough E _ _) oL_69 17 rfl rfl rfl rfl rfl dL_law_551 (fun o2 w2 z2 => ?_)
  obtain ⟨rfl, -⟩ := z2
  refine mg_v ?_
  refine mg_icmp_eq C 826 dL_law_554 (by decide) (fun _ => ?_) (fun hne => absurd rfl hne)
  exact fin _ _ _ rfl rfl
set_option maxHeartbeats 400000 in
set_option maxRecDepth 100000 in
theorem law_c13 (E : En) (X : Fx) (adc adm : Nat → Nat) (b : Nat) (xs : Nat → Int32) (C : Cx E X code 4 RL ret 8 288 600000 7302250) (hq : Lq X b) (hs : Sc X b 4 xs) : GG E X (cw E adc 16 gF aF vF (mw E adm gF aF vF [])) 38 60361 559 [(0, .ref b), (1, .ref (adc 19)), (2, .ref (adm 17)), (3, .int 0)] [] := by
  have fin : ∀ (ws : va_W) (k n : Nat), Nat.ble k 600000 = true → Nat.ble n 7302250 = true → GG E X ws k n 826 [(0, .ref b), (1, .ref (adc 19)), (2, .ref (adm 17)), (3, .int 0)] [] := law_out E X adc adm b xs C hq hs
  refine mg_aload_n C dL_law_559 rfl ?_
  refine mg_callV C (ct_X4_map E _ _) oL_70 19 rfl rfl rfl rfl rfl dL_law_560 (fun o1 w1 z1 => ?_)
  obtain ⟨rfl, Lz, rfl⟩ := z1
  refine mg_v ?_
  refine mg_swap ?_
  refine mg_ws (ws' := mw E adm gF aF vF Lz) rfl ?_
  refine mg_aload_n C dL_law_563 rfl ?_
  refine mg_callV C (ct_X5_map E _ _) oL_73 17 rfl rfl rfl rfl rfl dL_law_564 (fun o2 w2 z2 => ?_)
  obtain ⟨rfl, -⟩ := z2
  refine mg_v ?_
  refine mg_icmp_eq C 826 dL_law_567 (by decide) (fun _ => ?_) (fun hne => absurd rfl hne)
  exact fin _ _ _ rfl rfl
set_option maxHeartbeats 400000 in
set_option maxRecDepth 100000 in
theorem law_c14 (E : En) (X : Fx) (adc adm : Nat → Nat) (b : Nat) (xs : Nat → Int32) (C : Cx E X code 4 RL ret 8 288 600000 7302250) (hq : Lq X b) (hs : Sc X b 4 xs) : GG E X (cw E adc 16 gF aF vF (mw E adm gF aF vF [])) 38 60361 572 [(0, .ref b), (1, .ref (adc 19)), (2, .ref (adm 17)), (3, .int 0)] [] := by
  have fin : ∀ (ws : va_W) (k n : Nat), Nat.ble k 600000 = true → Nat.ble n 7302250 = true → GG E X ws k n 826 [(0, .ref b), (1, .ref (adc 19)), (2, .ref (adm 17)), (3, .int 0)] [] := law_out E X adc adm b xs C hq hs
  refine mg_aload_n C dL_law_572 rfl ?_
  refine mg_aload_n C dL_law_573 rfl ?_
  refine mg_iload_n C dL_law_574 rfl ?_
  refine mg_iconst (v := 1) C dL_law_575 (by decide) ?_
  refine mg_iadd C dL_law_576 ?_
  refine mg_sld C hs lawin1 dL_law_577 ?_
  refine mg_callV C (ct_X4_mapped E _ _ _) oL_74 19 rfl rfl rfl rfl rfl dL_law_578 (fun o1 w1 z1 => ?_)
  obtain ⟨rfl, Lz, rfl⟩ := z1
  refine mg_v ?_
  refine mg_swap ?_
  refine mg_ws (ws' := mw E adm gF aF vF Lz) rfl ?_
  refine mg_aload_n C dL_law_581 rfl ?_
  refine mg_aload_n C dL_law_582 rfl ?_
  refine mg_iload_n C dL_law_583 rfl ?_
  refine mg_iconst (v := 1) C dL_law_584 (by decide) ?_
  refine mg_iadd C dL_law_585 ?_
  refine mg_sld C hs lawin1 dL_law_586 ?_
  refine mg_callV C (ct_X5_mapped E _ _ _) oL_77 17 rfl rfl rfl rfl rfl dL_law_587 (fun o2 w2 z2 => ?_)
  obtain ⟨rfl, -⟩ := z2
  refine mg_v ?_
  refine mg_icmp_eq C 826 dL_law_590 (by decide) (fun _ => ?_) (fun hne => absurd rfl hne)
  exact fin _ _ _ rfl rfl
set_option maxHeartbeats 400000 in
set_option maxRecDepth 100000 in
theorem law_c15 (E : En) (X : Fx) (adc adm : Nat → Nat) (b : Nat) (xs : Nat → Int32) (C : Cx E X code 4 RL ret 8 288 600000 7302250) (hq : Lq X b) (hs : Sc X b 4 xs) : GG E X (cw E adc 16 gF aF vF (mw E adm gF aF vF [])) 38 60361 595 [(0, .ref b), (1, .ref (adc 19)), (2, .ref (adm 17)), (3, .int 0)] [] := by
  have fin : ∀ (ws : va_W) (k n : Nat), Nat.ble k 600000 = true → Nat.ble n 7302250 = true → GG E X ws k n 826 [(0, .ref b), (1, .ref (adc 19)), (2, .ref (adm 17)), (3, .int 0)] [] := law_out E X adc adm b xs C hq hs
  refine mg_aload_n C dL_law_595 rfl ?_
  refine mg_callV C (ct_X4_seal E _ _) oL_78 19 rfl rfl rfl rfl rfl dL_law_596 (fun o1 w1 z1 => ?_)
  obtain ⟨rfl, Lz, rfl⟩ := z1
  refine mg_v ?_
  refine mg_swap ?_
  refine mg_ws (ws' := mw E adm gF aF vF Lz) rfl ?_
  refine mg_aload_n C dL_law_599 rfl ?_
  refine mg_callV C (ct_X5_seal E _ _) oL_81 17 rfl rfl rfl rfl rfl dL_law_600 (fun o2 w2 z2 => ?_)
  obtain ⟨rfl, -⟩ := z2
  refine mg_v ?_
  refine mg_icmp_eq C 826 dL_law_603 (by decide) (fun _ => ?_) (fun hne => absurd rfl hne)
  exact fin _ _ _ rfl rfl
set_option maxHeartbeats 400000 in
set_option maxRecDepth 100000 in
theorem law_c16 (E : En) (X : Fx) (adc adm : Nat → Nat) (b : Nat) (xs : Nat → Int32) (C : Cx E X code 4 RL ret 8 288 600000 7302250) (hq : Lq X b) (hs : Sc X b 4 xs) : GG E X (cw E adc 16 gF aF vF (mw E adm gF aF vF [])) 38 60361 608 [(0, .ref b), (1, .ref (adc 19)), (2, .ref (adm 17)), (3, .int 0)] [] := by
  have fin : ∀ (ws : va_W) (k n : Nat), Nat.ble k 600000 = true → Nat.ble n 7302250 = true → GG E X ws k n 826 [(0, .ref b), (1, .ref (adc 19)), (2, .ref (adm 17)), (3, .int 0)] [] := law_out E X adc adm b xs C hq hs
  refine mg_aload_n C dL_law_608 rfl ?_
  refine mg_callV C (ct_X4_look E _ _) oL_82 19 rfl rfl rfl rfl rfl dL_law_609 (fun o1 w1 z1 => ?_)
  obtain ⟨rfl, Lz, rfl⟩ := z1
  refine mg_v ?_
  refine mg_swap ?_
  refine mg_ws (ws' := mw E adm gF aF vF Lz) rfl ?_
  refine mg_aload_n C dL_law_612 rfl ?_
  refine mg_callV C (ct_X5_look E _ _) oL_85 17 rfl rfl rfl rfl rfl dL_law_613 (fun o2 w2 z2 => ?_)
  obtain ⟨rfl, -⟩ := z2
  refine mg_v ?_
  refine mg_icmp_eq C 826 dL_law_616 (by decide) (fun _ => ?_) (fun hne => absurd rfl hne)
  exact fin _ _ _ rfl rfl
set_option maxHeartbeats 400000 in
set_option maxRecDepth 100000 in
theorem law_c17 (E : En) (X : Fx) (adc adm : Nat → Nat) (b : Nat) (xs : Nat → Int32) (C : Cx E X code 4 RL ret 8 288 600000 7302250) (hq : Lq X b) (hs : Sc X b 4 xs) : GG E X (cw E adc 16 gF aF vF (mw E adm gF aF vF [])) 38 60361 621 [(0, .ref b), (1, .ref (adc 19)), (2, .ref (adm 17)), (3, .int 0)] [] := by
  have fin : ∀ (ws : va_W) (k n : Nat), Nat.ble k 600000 = true → Nat.ble n 7302250 = true → GG E X ws k n 826 [(0, .ref b), (1, .ref (adc 19)), (2, .ref (adm 17)), (3, .int 0)] [] := law_out E X adc adm b xs C hq hs
  refine mg_aload_n C dL_law_621 rfl ?_
  refine mg_aload_n C dL_law_622 rfl ?_
  refine mg_iload_n C dL_law_623 rfl ?_
  refine mg_iconst (v := 1) C dL_law_624 (by decide) ?_
  refine mg_iadd C dL_law_625 ?_
  refine mg_sld C hs lawin1 dL_law_626 ?_
  refine mg_callV C (ct_X4_fade E _ _ _) oL_86 19 rfl rfl rfl rfl rfl dL_law_627 (fun o1 w1 z1 => ?_)
  obtain ⟨rfl, Lz, rfl⟩ := z1
  refine mg_v ?_
  refine mg_swap ?_
  refine mg_ws (ws' := mw E adm gF aF vF Lz) rfl ?_
  refine mg_aload_n C dL_law_630 rfl ?_
  refine mg_aload_n C dL_law_631 rfl ?_
  refine mg_iload_n C dL_law_632 rfl ?_
  refine mg_iconst (v := 1) C dL_law_633 (by decide) ?_
  refine mg_iadd C dL_law_634 ?_
  refine mg_sld C hs lawin1 dL_law_635 ?_
  refine mg_callV C (ct_X5_fade E _ _ _) oL_89 17 rfl rfl rfl rfl rfl dL_law_636 (fun o2 w2 z2 => ?_)
  obtain ⟨rfl, -⟩ := z2
  refine mg_v ?_
  refine mg_icmp_eq C 826 dL_law_639 (by decide) (fun _ => ?_) (fun hne => absurd rfl hne)
  exact fin _ _ _ rfl rfl
set_option maxHeartbeats 400000 in
set_option maxRecDepth 100000 in
theorem law_c18 (E : En) (X : Fx) (adc adm : Nat → Nat) (b : Nat) (xs : Nat → Int32) (C : Cx E X code 4 RL ret 8 288 600000 7302250) (hq : Lq X b) (hs : Sc X b 4 xs) : GG E X (cw E adc 16 gF aF vF (mw E adm gF aF vF [])) 38 60361 644 [(0, .ref b), (1, .ref (adc 19)), (2, .ref (adm 17)), (3, .int 0)] [] := by
  have fin : ∀ (ws : va_W) (k n : Nat), Nat.ble k 600000 = true → Nat.ble n 7302250 = true → GG E X ws k n 826 [(0, .ref b), (1, .ref (adc 19)), (2, .ref (adm 17)), (3, .int 0)] [] := law_out E X adc adm b xs C hq hs
  refine mg_aload_n C dL_law_644 rfl ?_
  refine mg_aload_n C dL_law_645 rfl ?_
  refine mg_iload_n C dL_law_646 rfl ?_
  refine mg_iconst (v := 1) C dL_law_647 (by decide) ?_
  refine mg_iadd C dL_law_648 ?_
  refine mg_sld C hs lawin1 dL_law_649 ?_
  refine mg_aload_n C dL_law_650 rfl ?_
  refine mg_iload_n C dL_law_651 rfl ?_
  refine mg_iconst (v := 2) C dL_law_652 (by decide) ?_
  refine mg_iadd C dL_law_653 ?_
  refine mg_sld C hs lawin2 dL_law_654 ?_
  refine mg_aload_n C dL_law_655 rfl ?_
  refine mg_iload_n C dL_law_656 rfl ?_
  refine mg_iconst (v := 3) C dL_law_657 (by decide) ?_
  refine mg_iadd C dL_law_658 ?_
  refine mg_sld C hs lawin3 dL_law_659 ?_
  refine mg_callV C (ct_X4_pulse E _ _ _ _ _) oL_90 19 rfl rfl rfl rfl rfl dL_law_660 (fun o1 w1 z1 => ?_)
  obtain ⟨rfl, Lz, rfl⟩ := z1
  refine mg_v ?_
  refine mg_swap ?_
  refine mg_ws (ws' := mw E adm gF aF vF Lz) rfl ?_
  refine mg_aload_n C dL_law_663 rfl ?_
  refine mg_aload_n C dL_law_664 rfl ?_
  refine mg_iload_n C dL_law_665 rfl ?_
  refine mg_iconst (v := 1) C dL_law_666 (by decide) ?_
  refine mg_iadd C dL_law_667 ?_
  refine mg_sld C hs lawin1 dL_law_668 ?_
  refine mg_aload_n C dL_law_669 rfl ?_
  refine mg_iload_n C dL_law_670 rfl ?_
  refine mg_iconst (v := 2) C dL_law_671 (by decide) ?_
  refine mg_iadd C dL_law_672 ?_
  refine mg_sld C hs lawin2 dL_law_673 ?_
  refine mg_aload_n C dL_law_674 rfl ?_
  refine mg_iload_n C dL_law_675 rfl ?_
  refine mg_iconst (v := 3) C dL_law_676 (by decide) ?_
  refine mg_iadd C dL_law_677 ?_
  refine mg_sld C hs lawin3 dL_law_678 ?_
  refine mg_callV C (ct_X5_pulse E _ _ _ _ _) oL_93 17 rfl rfl rfl rfl rfl dL_law_679 (fun o2 w2 z2 => ?_)
  obtain ⟨rfl, -⟩ := z2
  refine mg_v ?_
  refine mg_icmp_eq C 826 dL_law_682 (by decide) (fun _ => ?_) (fun hne => absurd rfl hne)
  exact fin _ _ _ rfl rfl
set_option maxHeartbeats 400000 in
set_option maxRecDepth 100000 in
theorem law_c19 (E : En) (X : Fx) (adc adm : Nat → Nat) (b : Nat) (xs : Nat → Int32) (C : Cx E X code 4 RL ret 8 288 600000 7302250) (hq : Lq X b) (hs : Sc X b 4 xs) : GG E X (cw E adc 16 gF aF vF (mw E adm gF aF vF [])) 38 60361 687 [(0, .ref b), (1, .ref (adc 19)), (2, .ref (adm 17)), (3, .int 0)] [] := by
  have fin : ∀ (ws : va_W) (k n : Nat), Nat.ble k 600000 = true → Nat.ble n 7302250 = true → GG E X ws k n 826 [(0, .ref b), (1, .ref (adc 19)), (2, .ref (adm 17)), (3, .int 0)] [] := law_out E X adc adm b xs C hq hs
  refine mg_aload_n C dL_law_687 rfl ?_
  refine mg_aload_n C dL_law_688 rfl ?_
  refine mg_iload_n C dL_law_689 rfl ?_
  refine mg_iconst (v := 1) C dL_law_690 (by decide) ?_
  refine mg_iadd C dL_law_691 ?_
  refine mg_sld C hs lawin1 dL_law_692 ?_
  refine mg_aload_n C dL_law_693 rfl ?_
  refine mg_iload_n C dL_law_694 rfl ?_
  refine mg_iconst (v := 2) C dL_law_695 (by decide) ?_
  refine mg_iadd C dL_law_696 ?_
  refine mg_sld C hs lawin2 dL_law_697 ?_
  refine mg_aload_n C dL_law_698 rfl ?_
  refine mg_iload_n C dL_law_699 rfl ?_
  refine mg_iconst (v := 3) C dL_law_700 (by decide) ?_
  refine mg_iadd C dL_law_701 ?_
  refine mg_sld C hs lawin3 dL_law_702 ?_
  refine mg_callV C (ct_X4_find E _ _ _ _ _) oL_94 19 rfl rfl rfl rfl rfl dL_law_703 (fun o1 w1 z1 => ?_)
  obtain ⟨rfl, Lz, rfl⟩ := z1
  refine mg_v ?_
  refine mg_swap ?_
  refine mg_ws (ws' := mw E adm gF aF vF Lz) rfl ?_
  refine mg_aload_n C dL_law_706 rfl ?_
  refine mg_aload_n C dL_law_707 rfl ?_
  refine mg_iload_n C dL_law_708 rfl ?_
  refine mg_iconst (v := 1) C dL_law_709 (by decide) ?_
  refine mg_iadd C dL_law_710 ?_
  refine mg_sld C hs lawin1 dL_law_711 ?_
  refine mg_aload_n C dL_law_712 rfl ?_
  refine mg_iload_n C dL_law_713 rfl ?_
  refine mg_iconst (v := 2) C dL_law_714 (by decide) ?_
  refine mg_iadd C dL_law_715 ?_
  refine mg_sld C hs lawin2 dL_law_716 ?_
  refine mg_aload_n C dL_law_717 rfl ?_
  refine mg_iload_n C dL_law_718 rfl ?_
  refine mg_iconst (v := 3) C dL_law_719 (by decide) ?_
  refine mg_iadd C dL_law_720 ?_
  refine mg_sld C hs lawin3 dL_law_721 ?_
  refine mg_callV C (ct_X5_find E _ _ _ _ _) oL_97 17 rfl rfl rfl rfl rfl dL_law_722 (fun o2 w2 z2 => ?_)
  obtain ⟨rfl, -⟩ := z2
  refine mg_v ?_
  refine mg_icmp_eq C 826 dL_law_725 (by decide) (fun _ => ?_) (fun hne => absurd rfl hne)
  exact fin _ _ _ rfl rfl
set_option maxHeartbeats 400000 in
set_option maxRecDepth 100000 in
theorem law_c20 (E : En) (X : Fx) (adc adm : Nat → Nat) (b : Nat) (xs : Nat → Int32) (C : Cx E X code 4 RL ret 8 288 600000 7302250) (hq : Lq X b) (hs : Sc X b 4 xs) : GG E X (cw E adc 16 gF aF vF (mw E adm gF aF vF [])) 38 60361 730 [(0, .ref b), (1, .ref (adc 19)), (2, .ref (adm 17)), (3, .int 0)] [] := by
  have fin : ∀ (ws : va_W) (k n : Nat), Nat.ble k 600000 = true → Nat.ble n 7302250 = true → GG E X ws k n 826 [(0, .ref b), (1, .ref (adc 19)), (2, .ref (adm 17)), (3, .int 0)] [] := law_out E X adc adm b xs C hq hs
  refine mg_aload_n C dL_law_730 rfl ?_
  refine mg_aload_n C dL_law_731 rfl ?_
  refine mg_iload_n C dL_law_732 rfl ?_
  refine mg_iconst (v := 1) C dL_law_733 (by decide) ?_
  refine mg_iadd C dL_law_734 ?_
  refine mg_sld C hs lawin1 dL_law_735 ?_
  refine mg_aload_n C dL_law_736 rfl ?_
  refine mg_iload_n C dL_law_737 rfl ?_
  refine mg_iconst (v := 2) C dL_law_738 (by decide) ?_
  refine mg_iadd C dL_law_739 ?_
  refine mg_sld C hs lawin2 dL_law_740 ?_
  refine mg_callV C (ct_X4_actAt E _ _ _ _) oL_98 19 rfl rfl rfl rfl rfl dL_law_741 (fun o1 w1 z1 => ?_)
  obtain ⟨rfl, Lz, rfl⟩ := z1
  refine mg_v ?_
  refine mg_swap ?_
  refine mg_ws (ws' := mw E adm gF aF vF Lz) rfl ?_
  refine mg_aload_n C dL_law_744 rfl ?_
  refine mg_aload_n C dL_law_745 rfl ?_
  refine mg_iload_n C dL_law_746 rfl ?_
  refine mg_iconst (v := 1) C dL_law_747 (by decide) ?_
  refine mg_iadd C dL_law_748 ?_
  refine mg_sld C hs lawin1 dL_law_749 ?_
  refine mg_aload_n C dL_law_750 rfl ?_
  refine mg_iload_n C dL_law_751 rfl ?_
  refine mg_iconst (v := 2) C dL_law_752 (by decide) ?_
  refine mg_iadd C dL_law_753 ?_
  refine mg_sld C hs lawin2 dL_law_754 ?_
  refine mg_callV C (ct_X5_actAt E _ _ _ _) oL_101 17 rfl rfl rfl rfl rfl dL_law_755 (fun o2 w2 z2 => ?_)
  obtain ⟨rfl, -⟩ := z2
  refine mg_v ?_
  refine mg_icmp_eq C 826 dL_law_758 (by decide) (fun _ => ?_) (fun hne => absurd rfl hne)
  exact fin _ _ _ rfl rfl
set_option maxHeartbeats 400000 in
set_option maxRecDepth 100000 in
theorem law_c21 (E : En) (X : Fx) (adc adm : Nat → Nat) (b : Nat) (xs : Nat → Int32) (C : Cx E X code 4 RL ret 8 288 600000 7302250) (hq : Lq X b) (hs : Sc X b 4 xs) : GG E X (cw E adc 16 gF aF vF (mw E adm gF aF vF [])) 38 60361 763 [(0, .ref b), (1, .ref (adc 19)), (2, .ref (adm 17)), (3, .int 0)] [] := by
  have fin : ∀ (ws : va_W) (k n : Nat), Nat.ble k 600000 = true → Nat.ble n 7302250 = true → GG E X ws k n 826 [(0, .ref b), (1, .ref (adc 19)), (2, .ref (adm 17)), (3, .int 0)] [] := law_out E X adc adm b xs C hq hs
  refine mg_aload_n C dL_law_763 rfl ?_
  refine mg_callV C (ct_X4_where E _ _) oL_102 19 rfl rfl rfl rfl rfl dL_law_764 (fun o1 w1 z1 => ?_)
  obtain ⟨rfl, Lz, rfl⟩ := z1
  refine mg_v ?_
  refine mg_swap ?_
  refine mg_ws (ws' := mw E adm gF aF vF Lz) rfl ?_
  refine mg_aload_n C dL_law_767 rfl ?_
  refine mg_callV C (ct_X5_where E _ _) oL_105 17 rfl rfl rfl rfl rfl dL_law_768 (fun o2 w2 z2 => ?_)
  obtain ⟨rfl, -⟩ := z2
  refine mg_v ?_
  refine mg_icmp_eq C 826 dL_law_771 (by decide) (fun _ => ?_) (fun hne => absurd rfl hne)
  exact fin _ _ _ rfl rfl
set_option maxHeartbeats 400000 in
set_option maxRecDepth 100000 in
theorem law_c22 (E : En) (X : Fx) (adc adm : Nat → Nat) (b : Nat) (xs : Nat → Int32) (C : Cx E X code 4 RL ret 8 288 600000 7302250) (hq : Lq X b) (hs : Sc X b 4 xs) : GG E X (cw E adc 16 gF aF vF (mw E adm gF aF vF [])) 38 60361 776 [(0, .ref b), (1, .ref (adc 19)), (2, .ref (adm 17)), (3, .int 0)] [] := by
  have fin : ∀ (ws : va_W) (k n : Nat), Nat.ble k 600000 = true → Nat.ble n 7302250 = true → GG E X ws k n 826 [(0, .ref b), (1, .ref (adc 19)), (2, .ref (adm 17)), (3, .int 0)] [] := law_out E X adc adm b xs C hq hs
  refine mg_aload_n C dL_law_776 rfl ?_
  refine mg_callV C (ct_X4_met E _ _) oL_106 19 rfl rfl rfl rfl rfl dL_law_777 (fun o1 w1 z1 => ?_)
  obtain ⟨rfl, Lz, rfl⟩ := z1
  refine mg_v ?_
  refine mg_swap ?_
  refine mg_ws (ws' := mw E adm gF aF vF Lz) rfl ?_
  refine mg_aload_n C dL_law_780 rfl ?_
  refine mg_callV C (ct_X5_met E _ _) oL_109 17 rfl rfl rfl rfl rfl dL_law_781 (fun o2 w2 z2 => ?_)
  obtain ⟨rfl, -⟩ := z2
  refine mg_v ?_
  refine mg_icmp_eq C 826 dL_law_784 (by decide) (fun _ => ?_) (fun hne => absurd rfl hne)
  exact fin _ _ _ rfl rfl
set_option maxHeartbeats 400000 in
set_option maxRecDepth 100000 in
theorem law_c23 (E : En) (X : Fx) (adc adm : Nat → Nat) (b : Nat) (xs : Nat → Int32) (C : Cx E X code 4 RL ret 8 288 600000 7302250) (hq : Lq X b) (hs : Sc X b 4 xs) : GG E X (cw E adc 16 gF aF vF (mw E adm gF aF vF [])) 38 60361 789 [(0, .ref b), (1, .ref (adc 19)), (2, .ref (adm 17)), (3, .int 0)] [] := by
  have fin : ∀ (ws : va_W) (k n : Nat), Nat.ble k 600000 = true → Nat.ble n 7302250 = true → GG E X ws k n 826 [(0, .ref b), (1, .ref (adc 19)), (2, .ref (adm 17)), (3, .int 0)] [] := law_out E X adc adm b xs C hq hs
  refine mg_aload_n C dL_law_789 rfl ?_
  refine mg_aload_n C dL_law_790 rfl ?_
  refine mg_iload_n C dL_law_791 rfl ?_
  refine mg_iconst (v := 1) C dL_law_792 (by decide) ?_
  refine mg_iadd C dL_law_793 ?_
  refine mg_sld C hs lawin1 dL_law_794 ?_
  refine mg_callV C (Ct.mono (ct_X4_count E _ _ _) (Z' := fun o w => o = some (.int (anCount _)) ∧ ∃ L : va_W, w = L ++ mw E adm gF aF vF []) (fun o w hz => ⟨hz.1, ⟨cw E adc 16 gF aF vF [], hz.2⟩⟩)) oL_110 19 rfl rfl rfl rfl rfl dL_law_795 (fun o1 w1 z1 => ?_)
  obtain ⟨rfl, Lz, rfl⟩ := z1
  refine mg_v ?_
  refine mg_swap ?_
  refine mg_ws (ws' := mw E adm gF aF vF Lz) rfl ?_
  refine mg_aload_n C dL_law_798 rfl ?_
  refine mg_aload_n C dL_law_799 rfl ?_
  refine mg_iload_n C dL_law_800 rfl ?_
  refine mg_iconst (v := 1) C dL_law_801 (by decide) ?_
  refine mg_iadd C dL_law_802 ?_
  refine mg_sld C hs lawin1 dL_law_803 ?_
  refine mg_callV C (ct_X5_count E _ _ _) oL_113 17 rfl rfl rfl rfl rfl dL_law_804 (fun o2 w2 z2 => ?_)
  obtain ⟨rfl, -⟩ := z2
  refine mg_v ?_
  refine mg_icmp_eq C 826 dL_law_807 (by decide) (fun _ => ?_) (fun hne => absurd rfl hne)
  exact fin _ _ _ rfl rfl
set_option maxHeartbeats 400000 in
set_option maxRecDepth 100000 in
theorem law_c24 (E : En) (X : Fx) (adc adm : Nat → Nat) (b : Nat) (xs : Nat → Int32) (C : Cx E X code 4 RL ret 8 288 600000 7302250) (hq : Lq X b) (hs : Sc X b 4 xs) : GG E X (cw E adc 16 gF aF vF (mw E adm gF aF vF [])) 38 60361 812 [(0, .ref b), (1, .ref (adc 19)), (2, .ref (adm 17)), (3, .int 0)] [] := by
  have fin : ∀ (ws : va_W) (k n : Nat), Nat.ble k 600000 = true → Nat.ble n 7302250 = true → GG E X ws k n 826 [(0, .ref b), (1, .ref (adc 19)), (2, .ref (adm 17)), (3, .int 0)] [] := law_out E X adc adm b xs C hq hs
  refine mg_aload_n C dL_law_812 rfl ?_
  refine mg_callV C (ct_X4_digest E _ _) oL_114 19 rfl rfl rfl rfl rfl dL_law_813 (fun o1 w1 z1 => ?_)
  obtain ⟨rfl, Lz, rfl⟩ := z1
  refine mg_v ?_
  refine mg_swap ?_
  refine mg_ws (ws' := mw E adm gF aF vF Lz) rfl ?_
  refine mg_aload_n C dL_law_816 rfl ?_
  refine mg_callV C (ct_X5_digest E _ _) oL_118 17 rfl rfl rfl rfl rfl dL_law_817 (fun o2 w2 z2 => ?_)
  obtain ⟨rfl, -⟩ := z2
  refine mg_v ?_
  refine mg_lcmp C dL_law_820 ?_
  refine mg_if_eq C 826 dL_law_821 (by decide) (fun _ => ?_) (fun hne => absurd lgc0 hne)
  exact fin _ _ _ rfl rfl
set_option maxHeartbeats 400000 in
set_option maxRecDepth 100000 in
theorem law_body (E : En) (X : Fx) (adc adm : Nat → Nat) (b : Nat) (xs : Nat → Int32) (C : Cx E X code 4 RL ret 8 288 600000 7302250) (hq : Lq X b) (hs : Sc X b 4 xs) : GG E X (cw E adc 16 gF aF vF (mw E adm gF aF vF [])) 38 60361 18 [(0, .ref b), (1, .ref (adc 19)), (2, .ref (adm 17)), (3, .int 0)] [] := by
  refine mg_iload_n C dL_law_18 rfl ?_
  refine mg_aload_n C dL_law_19 rfl ?_
  refine mg_slen C hs dL_law_20 ?_
  refine mg_iconst (v := 4) C dL_law_21 (by decide) ?_
  refine mg_isub C dL_law_22 ?_
  refine mg_icmp_gt C 832 dL_law_23 (by decide) (fun hh => absurd hh (by decide)) (fun _ => ?_)
  refine mg_aload_n C dL_law_26 rfl ?_
  refine mg_iload_n C dL_law_27 rfl ?_
  refine mg_sld C hs lawin0 dL_law_28 ?_
  refine mg_bipush (v := 31) C dL_law_29 (by decide) ?_
  refine mg_iand C dL_law_31 ?_
  refine mg_topi (fun yy eyy => ?_)
  obtain ⟨j, hj, e⟩ := pk_andE (xs (0 : Int32).toNatClampNeg) (m := 31) 5 (by decide)
  rw [e] at eyy
  subst eyy
  by_cases h25 : j < 25
  · rcases (by omega : j = 0 ∨ j = 1 ∨ j = 2 ∨ j = 3 ∨ j = 4 ∨ j = 5 ∨ j = 6 ∨ j = 7 ∨ j = 8 ∨ j = 9 ∨ j = 10 ∨ j = 11 ∨ j = 12 ∨ j = 13 ∨ j = 14 ∨ j = 15 ∨ j = 16 ∨ j = 17 ∨ j = 18 ∨ j = 19 ∨ j = 20 ∨ j = 21 ∨ j = 22 ∨ j = 23 ∨ j = 24) with rfl | rfl | rfl | rfl | rfl | rfl | rfl | rfl | rfl | rfl | rfl | rfl | rfl | rfl | rfl | rfl | rfl | rfl | rfl | rfl | rfl | rfl | rfl | rfl | rfl
    · refine mg_tabIn C 148 dL_law_32 (by decide) (by decide) rfl (by decide) ?_
      exact law_c0 E X adc adm b xs C hq hs
    · refine mg_tabIn C 191 dL_law_32 (by decide) (by decide) rfl (by decide) ?_
      exact law_c1 E X adc adm b xs C hq hs
    · refine mg_tabIn C 234 dL_law_32 (by decide) (by decide) rfl (by decide) ?_
      exact law_c2 E X adc adm b xs C hq hs
    · refine mg_tabIn C 277 dL_law_32 (by decide) (by decide) rfl (by decide) ?_
      exact law_c3 E X adc adm b xs C hq hs
    · refine mg_tabIn C 320 dL_law_32 (by decide) (by decide) rfl (by decide) ?_
      exact law_c4 E X adc adm b xs C hq hs
    · refine mg_tabIn C 353 dL_law_32 (by decide) (by decide) rfl (by decide) ?_
      exact law_c5 E X adc adm b xs C hq hs
    · refine mg_tabIn C 376 dL_law_32 (by decide) (by decide) rfl (by decide) ?_
      exact law_c6 E X adc adm b xs C hq hs
    · refine mg_tabIn C 399 dL_law_32 (by decide) (by decide) rfl (by decide) ?_
      exact law_c7 E X adc adm b xs C hq hs
    · refine mg_tabIn C 442 dL_law_32 (by decide) (by decide) rfl (by decide) ?_
      exact law_c8 E X adc adm b xs C hq hs
    · refine mg_tabIn C 485 dL_law_32 (by decide) (by decide) rfl (by decide) ?_
      exact law_c9 E X adc adm b xs C hq hs
    · refine mg_tabIn C 498 dL_law_32 (by decide) (by decide) rfl (by decide) ?_
      exact law_c10 E X adc adm b xs C hq hs
    · refine mg_tabIn C 522 dL_law_32 (by decide) (by decide) rfl (by decide) ?_
      exact law_c11 E X adc adm b xs C hq hs
    · refine mg_tabIn C 546 dL_law_32 (by decide) (by decide) rfl (by decide) ?_
      exact law_c12 E X adc adm b xs C hq hs
    · refine mg_tabIn C 559 dL_law_32 (by decide) (by decide) rfl (by decide) ?_
      exact law_c13 E X adc adm b xs C hq hs
    · refine mg_tabIn C 572 dL_law_32 (by decide) (by decide) rfl (by decide) ?_
      exact law_c14 E X adc adm b xs C hq hs
    · refine mg_tabIn C 595 dL_law_32 (by decide) (by decide) rfl (by decide) ?_
      exact law_c15 E X adc adm b xs C hq hs
    · refine mg_tabIn C 608 dL_law_32 (by decide) (by decide) rfl (by decide) ?_
      exact law_c16 E X adc adm b xs C hq hs
    · refine mg_tabIn C 621 dL_law_32 (by decide) (by decide) rfl (by decide) ?_
      exact law_c17 E X adc adm b xs C hq hs
    · refine mg_tabIn C 644 dL_law_32 (by decide) (by decide) rfl (by decide) ?_
      exact law_c18 E X adc adm b xs C hq hs
    · refine mg_tabIn C 687 dL_law_32 (by decide) (by decide) rfl (by decide) ?_
      exact law_c19 E X adc adm b xs C hq hs
    · refine mg_tabIn C 730 dL_law_32 (by decide) (by decide) rfl (by decide) ?_
      exact law_c20 E X adc adm b xs C hq hs
    · refine mg_tabIn C 763 dL_law_32 (by decide) (by decide) rfl (by decide) ?_
      exact law_c21 E X adc adm b xs C hq hs
    · refine mg_tabIn C 776 dL_law_32 (by decide) (by decide) rfl (by decide) ?_
      exact law_c22 E X adc adm b xs C hq hs
    · refine mg_tabIn C 789 dL_law_32 (by decide) (by decide) rfl (by decide) ?_
      exact law_c23 E X adc adm b xs C hq hs
    · refine mg_tabIn C 812 dL_law_32 (by decide) (by decide) rfl (by decide) ?_
      exact law_c24 E X adc adm b xs C hq hs
  · refine mg_tabOut C 826 dL_law_32 (Or.inr (by rw [nI_toInt (by omega)]; omega)) (by decide) ?_
    exact law_out E X adc adm b xs C hq hs _ _ _ rfl rfl
set_option maxHeartbeats 400000 in
set_option maxRecDepth 100000 in
theorem law_enter (E : En) (X : Fx) (b L : Nat) (xs : Nat → Int32) (C : Cx E X code 4 RL ret 8 288 600000 7302250) (hq : Lq X b) (hs : Sc X b L xs) (hL : L ≤ 4) : GG E X [] 0 0 0 [(0, .ref b)] [] := by
  refine mg_new C inG_X4 tyX4 tyX4_ok nL_7 (ci := 4) rfl (fs := [.null, .null, .null, .null]) rfl (by decide) (by decide) dL_law_0 (fun q0 => ?_)
  refine mg_dup C dL_law_3 rfl ?_
  refine mg_callI C (ct_X4_init E q0 []) oL_9 rfl rfl rfl rfl dL_law_4 (fun o1 w1 z1 => ?_)
  obtain ⟨rfl, lx, hx19, rfl⟩ := z1
  refine mg_v0 ?_
  refine mg_astore_n C dL_law_7 rfl ?_
  refine mg_lve (lv' := [(0, .ref b), (1, .ref q0)]) rfl ?_
  refine mg_new C inG_X5 tyX5 tyX5_ok nL_10 (ci := 5) rfl (fs := [.int 0, .int 0, .int 0, .null, .null, .null, .null, .int 0, .int 0, .int 0, .int 0, .int 0, .int 0, .null, .null, .null, .null, .null, .null, .null, .null, .null, .null, .null, .null, .int 0, .int 0, .null, .int 0]) rfl (by decide) (by decide) dL_law_8 (fun q8 => ?_)
  refine mg_dup C dL_law_11 rfl ?_
  refine mg_callI C (ct_X5_init E q8 (cw E (adL lx) 16 gF aF vF [])) oL_12 rfl rfl rfl rfl dL_law_12 (fun o2 w2 z2 => ?_)
  obtain ⟨rfl, lm, hm17, rfl⟩ := z2
  refine mg_v0 ?_
  refine mg_astore_n C dL_law_15 rfl ?_
  refine mg_lve (lv' := [(0, .ref b), (1, .ref q0), (2, .ref q8)]) rfl ?_
  refine mg_iconst (v := 0) C dL_law_16 (by decide) ?_
  refine mg_istore_n C dL_law_17 rfl ?_
  refine mg_lve (lv' := [(0, .ref b), (1, .ref q0), (2, .ref q8), (3, .int 0)]) rfl ?_
  subst hx19; subst hm17
  by_cases h4 : L = 4
  · subst h4
    refine mg_ws (ws' := mw E (adL lm) gF aF vF [] ++ cw E (adL lx) 16 gF aF vF []) rfl ?_
    refine mg_swap ?_
    refine mg_ws (ws' := cw E (adL lx) 16 gF aF vF (mw E (adL lm) gF aF vF [])) rfl ?_
    exact law_body E X (adL lx) (adL lm) b xs C hq hs
  · refine mg_iload_n C dL_law_18 rfl ?_
    refine mg_aload_n C dL_law_19 rfl ?_
    refine mg_slen C hs dL_law_20 ?_
    refine mg_iconst (v := 4) C dL_law_21 (by decide) ?_
    refine mg_isub C dL_law_22 ?_
    refine mg_icmp_gt C 832 dL_law_23 (by decide) (fun _ => ?_) (fun hh => absurd (pk_sneg (a := L) (b := 4) (by decide) (by omega)) hh)
    refine mg_iconst (v := 1) C dL_law_832 (by decide) ?_
    exact mg_lawret C hq rfl rfl dL_law_833
set_option maxHeartbeats 400000 in
set_option maxRecDepth 100000 in
theorem whole_start {p : Program} {e : Env} {s : State} {m : MethodId} {below : List Frame} {meth : Method} {c : Code} (l : Launch) {b L : Nat} {xs : Nat → Int32} (hL : L ≤ 4) (C0 : lw_At p s m meth c b L xs) : W p l e room_1 s m #[Value.ref b] below meth c s.heap [] 0 0 (lw_Z below #[Value.ref b] s) (entryFrame m ([Value.ref b] : List Value).toArray 4) := by
  obtain ⟨hx, hb, hr, hml, hown, hts, hX, hbl, hlocks, hgv⟩ := C0
  have htg : ∀ w ∈ gtbl, w.before #[Value.ref b] s = true := fun w hw => hts w (List.mem_filter.mp hw).1
  obtain ⟨c0, iS0, hKn0⟩ := u_known (C := RX0) (T := TX0) (N := 4) (n := 4) htg inG_X0 (htg (.instantiable RX0 4) (gt_of ⟨List.mem_of_getElem? (i := 184) (by decide +kernel), by decide +kernel⟩))
  obtain ⟨c1, iS1, hKn1⟩ := u_known (C := RX1) (T := TX1) (N := 8) (n := 8) htg inG_X1 (htg (.instantiable RX1 8) (gt_of ⟨List.mem_of_getElem? (i := 85) (by decide +kernel), by decide +kernel⟩))
  obtain ⟨c2, iS2, hKn2⟩ := u_known (C := RX2) (T := TX2) (N := 11) (n := 11) htg inG_X2 (htg (.instantiable RX2 11) (gt_of ⟨List.mem_of_getElem? (i := 204) (by decide +kernel), by decide +kernel⟩))
  obtain ⟨c3, iS3, hKn3⟩ := u_known (C := RX3) (T := TX3) (N := 11) (n := 11) htg inG_X3 (htg (.instantiable RX3 11) (gt_of ⟨List.mem_of_getElem? (i := 138) (by decide +kernel), by decide +kernel⟩))
  obtain ⟨c4, iS4, hKn4⟩ := u_known (C := RX4) (T := TX4) (N := 4) (n := 4) htg inG_X4 (htg (.instantiable RX4 4) (gt_of ⟨List.mem_of_getElem? (i := 77) (by decide +kernel), by decide +kernel⟩))
  obtain ⟨c5, iS5, hKn5⟩ := u_known (C := RX5) (T := TX5) (N := 29) (n := 29) htg inG_X5 (htg (.instantiable RX5 29) (gt_of ⟨List.mem_of_getElem? (i := 627) (by decide +kernel), by decide +kernel⟩))
  obtain ⟨dC, dI, hKc⟩ : ∃ (dC : Nat → ClassId) (dI : Nat → Nat → Nat), ∀ (k : Nat) (q : vw_C), vwCl[k]? = some q → u_Kn s q.1 q.2.1 q.2.2 (dC k) (dI k) := by
    refine ⟨fun k => match k with | 0 => c0 | 1 => c1 | 2 => c2 | 3 => c3 | 4 => c4 | _ => c5, fun k => match k with | 0 => iS0 | 1 => iS1 | 2 => iS2 | 3 => iS3 | 4 => iS4 | _ => iS5, ?_⟩
    intro k q hq
    match k, hq with
    | 0, hq => cases hq; exact hKn0
    | 1, hq => cases hq; exact hKn1
    | 2, hq => cases hq; exact hKn2
    | 3, hq => cases hq; exact hKn3
    | 4, hq => cases hq; exact hKn4
    | 5, hq => cases hq; exact hKn5
    | k + 6, hq => simp [vwCl] at hq
  obtain ⟨cI, kI, compI, fI, gI, hI⟩ := Cond.arrayClass_spec (htg _ aI_ok)
  obtain ⟨cL, kL, compL, fL, gL, hLk⟩ := Cond.arrayClass_spec (htg _ aJ_ok)
  have hK : va_K (dC, dI) vwCl [(cI, .int), (cL, .long)] s := by
    refine ⟨hKc, fun k q hq => ?_⟩
    match k, hq with
    | 0, hq => cases hq; exact ⟨fun n z => ⟨fun k h => (by cases h), kI, gI, compI, hI⟩, fI⟩
    | 1, hq => cases hq; exact ⟨fun n z => ⟨fun k h => (by cases h), kL, gL, compL, hLk⟩, fL⟩
    | k + 2, hq => simp at hq
  have hnw : NW s := by
    intro w hw hn
    have h0 := hts w hw
    cases w with
    | fieldLinkNest => exact va_Nw.of rfl h0
    | methodLinkNest => exact va_Nw.of rfl h0
    | _ => exact absurd hn (by simp [isNest])
  have hl := lv_entry ([.ref b]) (n := 4) (Nat.le_of_ble_eq_true rfl)
  rw [lg_entry_eq]
  have G := law_enter (l, (dC, dI), cI, cL) (p, e, room_1, s, m, #[Value.ref b], below, meth, c, (fun q : Nat => s.heap.size ≤ q), lw_Z below #[Value.ref b] s) b L xs
    ⟨hx, hb, hml, hown, htg, hlocks, hr, hK, hnw, fun _ h => h, rfl⟩ ⟨rfl, rfl, fun _ h => h, rfl⟩ ⟨hX, hbl, Nat.not_le.mpr hbl⟩ hL
  exact G s.heap [] _ (fun k q h => by simp at h) ⟨fun i j p q h => by simp at h, fun k q h => by simp at h⟩ va_S.rf (by rw [hml]; exact hl)
