/-! THE CLAIM OUT OF ONE WALK OF THE LAW'S BODY. Your part is whole_start (and what it stands on); all else here is the same for every law, but numbers. -/
def R_law : String := "AerialSurveyLaw"
def lw_P (b : Addr) (xs : List Int32) (args : Array Value) (s : State) : Prop := args = #[.ref b] ∧ s.IntsAt b xs ∧ xs.length ≤ 2560 ∧ (Jvm.Cond.and given_1 narrow_1).before args s = true
def lw_Q (_ : Array Value) (s : State) (o : Outcome) (t : State) : Prop := o = .returned (some (.int 1)) ∧ Framed s o t [] 600000 7302250
def lw_Z (below : List Frame) (a : Array Value) (s : State) : State → Prop := fun t => ∃ o, t.status = .running ∧ Ended t below o ∧ lw_Q a s o t
/-- the law's own end, with 1 on the stack, nothing written that was there before, its room as the claim has it -/
theorem lw_ret {p : Program} {l : Launch} {e : Env} {s : State} {m : MethodId} {below : List Frame} {meth : Method} {c : Code} {b : Nat} (hx : p.tables.exec = Jvm.exec) (hb : c.code = code) (hr : meth.sig.returnType = ret) (hlocks : meth.locks = false) {pc : Nat} {H : Heap} {ls : Array Slot} (hdg : decode code pc = .ok (.ireturn, 1)) : W p l e room_1 s m #[Value.ref b] below meth c H [] 600000 7302250 (lw_Z below #[Value.ref b] s) (F0 m pc ls [.int 1]) := by
  intro T hT X
  obtain ⟨fs, hret, hrun, hended, hW, hframe⟩ := X.leave (v := some (.int 1)) (hlocks := hlocks) (fun h => by rw [hr] at h; cases h)
  have hmeth' : T.vm.method? m = some meth := X.method'
  refine ⟨T.setFrames fs, ?_, .returned (some (.int 1)), hrun, hended, rfl, ⟨_, rfl⟩, hW, hframe⟩
  jvm_step X.here [X.here.top, hx, hb, hdg, hmeth', hr, ret, narrow_b1]
  (try refine ⟨rfl, ?_⟩); (try refine ⟨rfl, ?_⟩)
  first | (intro acts; rw [hret _ acts rfl rfl rfl]) | rw [hret _ _ rfl rfl rfl]
  exact Steps.refl _
/-- what holds at the law's entry: the machine, the code, the tables' words (any of lw_tbl by 'hts w (by decide +kernel)'), the script of L ints xs at the cell b, what the Statement gives of the start (any of its parts by flat_of_before) -/
def lw_At (p : Program) (s : State) (m : MethodId) (meth : Method) (c : Code) (b L : Nat) (xs : Nat → Int32) : Prop :=
  p.tables.exec = Jvm.exec ∧ c.code = code ∧ meth.sig.returnType = ret ∧ c.maxLocals = 4 ∧ s.vm.findClass R_law = some m.cls ∧ (∀ w ∈ lw_tbl, w.before #[Value.ref b] s = true) ∧ va_X b L xs s s.heap ∧ b < s.heap.size ∧ meth.locks = false ∧ (Jvm.Cond.and given_1 narrow_1).before #[Value.ref b] s = true
/-! ===== the law's own rows ===== -/
def AL (s : State) : Nat → Prop := fun q => s.heap.size ≤ q
section LAWROWS
variable {p : Program} {l : Launch} {e : Env} {R : Room} {s : State} {m : MethodId} {args : Array Value} {below : List Frame} {meth : Method} {c : Code} {H : Heap} {locs : List Loc} {cells slots : Nat} {Q : State → Prop}
variable {cc : ByteArray} {pc : Nat} {ls : Array Slot} {rest st : List Value} {G : Gm} {b L i : Nat} {xs : Nat → Int32}
theorem l_calli {post : Int32 → Sg → Prop} {av : Array Value} (hS : va_S (AL s) s.heap H locs) (hfr : ∀ q, fr G q → AL s q) (hr : va_Run p l e R s m args below meth c H locs cells slots 0 0 (F0 m pc ls st) rest (QI G post av) (fr G))
    (kk : ∀ (r : Int32) (σ1 : Sg) (H1 : Heap) (locs1 : List Loc), post r σ1 → Hp G σ1 H1 → va_S (AL s) s.heap H1 locs1 → W p l e R s m args below meth c H1 locs1 cells slots Q (F0 m (pc + 3) ls (.int r :: rest))) : W p l e R s m args below meth c H locs cells slots Q (F0 m pc ls st) :=
  va_calli hr hS (fun q _ h => hfr q h) hfr (fun r u t H1 locs1 ht _ hp hB _ _ hS1 => kk r u H1 locs1 hp (by rw [← ht]; exact hB) hS1)
theorem l_sld (hx : p.tables.exec = Jvm.exec) (hb : c.code = cc) (hX : va_X b L xs s s.heap) (hbl : b < s.heap.size) (hL : L ≤ 2560) (hS : va_S (AL s) s.heap H locs) (j : Nat) (hj : j < L) (hdg : decode cc pc = .ok (.iaload, 1))
    (kk : W p l e R s m args below meth c H locs cells slots Q (F0 m (pc + 1) ls (.int (xs j) :: rest))) : W p l e R s m args below meth c H locs cells slots Q (F0 m pc ls (.int (nI j) :: .ref b :: rest)) := by
  refine va_sld hx hb hX hbl (Nat.not_le.mpr hbl) hS (vp_in_nI hj (by omega)) hdg ?_
  rw [nI_clamp (by omega)]
  exact kk
/-- script[i + k] -/
theorem l_rd (hx : p.tables.exec = Jvm.exec) (hb : c.code = cc) (hX : va_X b L xs s s.heap) (hbl : b < s.heap.size) (hL : L ≤ 2560) (hS : va_S (AL s) s.heap H locs) {nL : Nat} {r1 r2 : Value} (hl : lv_has ls nL [(0, .ref b), (1, r1), (2, r2), (3, .int (nI i))]) (k : Nat) {kz : Int} (hk : Int32.ofInt kz = nI k) (hj : i + k < L)
    (d0 : decode cc pc = .ok (.aload_n 0, 1)) (d1 : decode cc (pc + 1) = .ok (.iload_n 3, 1)) (d2 : decode cc (pc + 2) = .ok (.iconst kz, 1)) (d3 : decode cc (pc + 3) = .ok (.iadd, 1)) (d4 : decode cc (pc + 4) = .ok (.iaload, 1))
    (kk : W p l e R s m args below meth c H locs cells slots Q (F0 m (pc + 5) ls (.int (xs (i + k)) :: rest))) : W p l e R s m args below meth c H locs cells slots Q (F0 m pc ls rest) := by
  refine lv_aload_n hx hb d0 rfl (lv_at hl 0 rfl) ?_
  refine lv_iload_n hx hb d1 rfl (lv_at hl 3 rfl) ?_
  refine lv_iconst (v := nI k) hx hb d2 hk ?_
  refine lv_iadd hx hb d3 ?_
  refine r_top (nI_add i k) ?_
  exact l_sld hx hb hX hbl hL hS (i + k) hj d4 kk
theorem l_ne0 (hx : p.tables.exec = Jvm.exec) (hb : c.code = cc) {x : Int32} (d1 : decode cc pc = .ok (.ifCond .eq 7, 3)) (d2 : decode cc (pc + 3) = .ok (.iconst 1, 1)) (d3 : decode cc (pc + 4) = .ok (.goto 4, 3)) (d4 : decode cc (pc + 7) = .ok (.iconst 0, 1))
    (kk : W p l e R s m args below meth c H locs cells slots Q (F0 m (pc + 8) ls (.int (b2i (decide (x ≠ 0))) :: rest))) : W p l e R s m args below meth c H locs cells slots Q (F0 m pc ls (.int x :: rest)) := by
  refine lv_if_eq (tgt := pc + 7) hx hb d1 (by omega) (fun h => ?_) (fun h => ?_)
  · refine lv_iconst (v := 0) hx hb d4 (by decide) ?_
    have : b2i (decide (x ≠ 0)) = 0 := by subst h; rfl
    rw [this] at kk
    exact kk
  · refine lv_iconst (v := 1) hx hb d2 (by decide) ?_
    refine lv_goto (tgt := pc + 8) hx hb d3 (by omega) ?_
    have : b2i (decide (x ≠ 0)) = 1 := by rw [decide_eq_true h]; rfl
    rw [this] at kk
    exact kk
end LAWROWS
/-- the walk stands before pc, at the script's place i, with the two surveys telling of one -/
def LPt (p : Program) (l : Launch) (e : Env) (s : State) (m : MethodId) (below : List Frame) (meth : Method) (c : Code) (b : Nat) (G : Gm) (i pc : Nat) : Prop :=
  ∀ (σ : Sg) (H : Heap) (locs : List Loc) (ls : Array Slot), INV σ → Hp G σ H → va_S (AL s) s.heap H locs → lv_has ls 4 [(0, .ref b), (1, .ref (G.2.1 20)), (2, .ref (G.2.1 29)), (3, .int (nI i))] → W p l e room_1 s m #[Value.ref b] below meth c H locs 37 34275 (lw_Z below #[Value.ref b] s) (F0 m pc ls [])
set_option maxRecDepth 100000 in
set_option maxHeartbeats 4000000 in
/-- resize -/
theorem law_resize {p : Program} {l : Launch} {e : Env} {s : State} {m : MethodId} {below : List Frame} {meth : Method} {c : Code} {b L : Nat} {xs : Nat → Int32} {G : Gm} {i : Nat} (hx : p.tables.exec = Jvm.exec) (hb : c.code = cL_law) (hX : va_X b L xs s s.heap) (hbl : b < s.heap.size) (hL : L ≤ 2560) (CF : CallFix p m c cL_law 4 s #[Value.ref b] wsL_law RL) (hK : KK G s) (hfr : ∀ q, fr G q → AL s q) (hi : i + 5 ≤ L) (kk : LPt p l e s m below meth c b G i 1043) : LPt p l e s m below meth c b G i 156 := by
  intro σ H locs ls hI hH hS hl
  obtain ⟨R, C, n, sq, sp, g, cm, u, v, w, hc, hm⟩ := hI
  refine lv_aload_n hx hb dL_law_156 rfl (lv_at hl 1 rfl) ?_
  refine l_rd hx hb hX hbl hL hS hl 1 (by decide) (by omega) dL_law_157 dL_law_158 dL_law_159 dL_law_160 dL_law_161 ?_
  refine l_rd hx hb hX hbl hL hS hl 2 (by decide) (by omega) dL_law_162 dL_law_163 dL_law_164 dL_law_165 dL_law_166 ?_
  refine l_calli hS hfr (r_runV (n := 2) (As := [.int (xs (i + 1)), .int (xs (i + 2))]) (rest := []) CF hK hH (c_X8_resize l G σ (xs (i + 1)) (xs (i + 2))) gL_law_X8_resize rfl rfl rfl rfl (by decide +kernel) ⟨⟨Nat.le_of_ble_eq_true rfl, Nat.le_of_ble_eq_true rfl⟩, Nat.le_of_ble_eq_true rfl, Nat.le_of_ble_eq_true rfl⟩ 20 rfl (Nat.le_of_ble_eq_true rfl) rfl rfl rfl hl.1 rfl (Nat.le_of_ble_eq_true rfl) dL_law_167) (fun r1 σ1 H locs hq1 hH hS => ?_)
  have hm1 := IM_hi hm (hi_resize hq1)
  refine lv_aload_n hx hb dL_law_170 rfl (lv_at hl 2 rfl) ?_
  refine l_rd hx hb hX hbl hL hS hl 1 (by decide) (by omega) dL_law_171 dL_law_172 dL_law_173 dL_law_174 dL_law_175 ?_
  refine l_rd hx hb hX hbl hL hS hl 2 (by decide) (by omega) dL_law_176 dL_law_177 dL_law_178 dL_law_179 dL_law_180 ?_
  refine l_calli hS hfr (r_runV (n := 2) (As := [.int (xs (i + 1)), .int (xs (i + 2))]) (rest := [.int r1]) CF hK hH (c_X9_resize l G σ1  (xs (i + 1)) (xs (i + 2))) gL_law_X9_resize rfl rfl rfl rfl (by decide +kernel) ⟨⟨Nat.le_of_ble_eq_true rfl, Nat.le_of_ble_eq_true rfl⟩, Nat.le_of_ble_eq_true rfl, Nat.le_of_ble_eq_true rfl⟩ 29 rfl (Nat.le_of_ble_eq_true rfl) rfl rfl rfl hl.1 rfl (Nat.le_of_ble_eq_true rfl) dL_law_181) (fun r2 σ2 H locs hq2 hH hS => ?_)
  obtain ⟨he, hI⟩ := pr_resize hc hm hq1 hq2
  exact lv_icmp_eq (tgt := 1043) hx hb dL_law_184 (by decide) (fun _ => kk σ2 H locs ls hI hH hS hl) (fun h => absurd he h)
set_option maxRecDepth 100000 in
set_option maxHeartbeats 4000000 in
/-- setHeight -/
theorem law_setHeight {p : Program} {l : Launch} {e : Env} {s : State} {m : MethodId} {below : List Frame} {meth : Method} {c : Code} {b L : Nat} {xs : Nat → Int32} {G : Gm} {i : Nat} (hx : p.tables.exec = Jvm.exec) (hb : c.code = cL_law) (hX : va_X b L xs s s.heap) (hbl : b < s.heap.size) (hL : L ≤ 2560) (CF : CallFix p m c cL_law 4 s #[Value.ref b] wsL_law RL) (hK : KK G s) (hfr : ∀ q, fr G q → AL s q) (hi : i + 5 ≤ L) (kk : LPt p l e s m below meth c b G i 1043) : LPt p l e s m below meth c b G i 189 := by
  intro σ H locs ls hI hH hS hl
  obtain ⟨R, C, n, sq, sp, g, cm, u, v, w, hc, hm⟩ := hI
  refine lv_aload_n hx hb dL_law_189 rfl (lv_at hl 1 rfl) ?_
  refine l_rd hx hb hX hbl hL hS hl 1 (by decide) (by omega) dL_law_190 dL_law_191 dL_law_192 dL_law_193 dL_law_194 ?_
  refine l_rd hx hb hX hbl hL hS hl 2 (by decide) (by omega) dL_law_195 dL_law_196 dL_law_197 dL_law_198 dL_law_199 ?_
  refine l_rd hx hb hX hbl hL hS hl 3 (by decide) (by omega) dL_law_200 dL_law_201 dL_law_202 dL_law_203 dL_law_204 ?_
  refine l_calli hS hfr (r_runV (n := 3) (As := [.int (xs (i + 1)), .int (xs (i + 2)), .int (xs (i + 3))]) (rest := []) CF hK hH (c_X8_setHeight l G σ R C n sq hc.1 (xs (i + 1)) (xs (i + 2)) (xs (i + 3))) gL_law_X8_setHeight rfl rfl rfl rfl (by decide +kernel) ⟨⟨Nat.le_of_ble_eq_true rfl, Nat.le_of_ble_eq_true rfl⟩, Nat.le_of_ble_eq_true rfl, Nat.le_of_ble_eq_true rfl⟩ 20 rfl (Nat.le_of_ble_eq_true rfl) rfl rfl rfl hl.1 rfl (Nat.le_of_ble_eq_true rfl) dL_law_205) (fun r1 σ1 H locs hq1 hH hS => ?_)
  have hm1 := IM_hi hm (hi_setHeight hq1)
  refine lv_aload_n hx hb dL_law_208 rfl (lv_at hl 2 rfl) ?_
  refine l_rd hx hb hX hbl hL hS hl 1 (by decide) (by omega) dL_law_209 dL_law_210 dL_law_211 dL_law_212 dL_law_213 ?_
  refine l_rd hx hb hX hbl hL hS hl 2 (by decide) (by omega) dL_law_214 dL_law_215 dL_law_216 dL_law_217 dL_law_218 ?_
  refine l_rd hx hb hX hbl hL hS hl 3 (by decide) (by omega) dL_law_219 dL_law_220 dL_law_221 dL_law_222 dL_law_223 ?_
  refine l_calli hS hfr (r_runV (n := 3) (As := [.int (xs (i + 1)), .int (xs (i + 2)), .int (xs (i + 3))]) (rest := [.int r1]) CF hK hH (c_X9_setHeight l G σ1 R C n sq hm1.1 (xs (i + 1)) (xs (i + 2)) (xs (i + 3))) gL_law_X9_setHeight rfl rfl rfl rfl (by decide +kernel) ⟨⟨Nat.le_of_ble_eq_true rfl, Nat.le_of_ble_eq_true rfl⟩, Nat.le_of_ble_eq_true rfl, Nat.le_of_ble_eq_true rfl⟩ 29 rfl (Nat.le_of_ble_eq_true rfl) rfl rfl rfl hl.1 rfl (Nat.le_of_ble_eq_true rfl) dL_law_224) (fun r2 σ2 H locs hq2 hH hS => ?_)
  obtain ⟨he, hI⟩ := pr_setHeight hc hm hq1 hq2
  exact lv_icmp_eq (tgt := 1043) hx hb dL_law_227 (by decide) (fun _ => kk σ2 H locs ls hI hH hS hl) (fun h => absurd he h)
set_option maxRecDepth 100000 in
set_option maxHeartbeats 4000000 in
/-- raiseHill -/
theorem law_raiseHill {p : Program} {l : Launch} {e : Env} {s : State} {m : MethodId} {below : List Frame} {meth : Method} {c : Code} {b L : Nat} {xs : Nat → Int32} {G : Gm} {i : Nat} (hx : p.tables.exec = Jvm.exec) (hb : c.code = cL_law) (hX : va_X b L xs s s.heap) (hbl : b < s.heap.size) (hL : L ≤ 2560) (CF : CallFix p m c cL_law 4 s #[Value.ref b] wsL_law RL) (hK : KK G s) (hfr : ∀ q, fr G q → AL s q) (hi : i + 5 ≤ L) (kk : LPt p l e s m below meth c b G i 1043) : LPt p l e s m below meth c b G i 232 := by
  intro σ H locs ls hI hH hS hl
  obtain ⟨R, C, n, sq, sp, g, cm, u, v, w, hc, hm⟩ := hI
  refine lv_aload_n hx hb dL_law_232 rfl (lv_at hl 1 rfl) ?_
  refine l_rd hx hb hX hbl hL hS hl 1 (by decide) (by omega) dL_law_233 dL_law_234 dL_law_235 dL_law_236 dL_law_237 ?_
  refine l_rd hx hb hX hbl hL hS hl 2 (by decide) (by omega) dL_law_238 dL_law_239 dL_law_240 dL_law_241 dL_law_242 ?_
  refine l_rd hx hb hX hbl hL hS hl 3 (by decide) (by omega) dL_law_243 dL_law_244 dL_law_245 dL_law_246 dL_law_247 ?_
  refine l_rd hx hb hX hbl hL hS hl 4 (by decide) (by omega) dL_law_248 dL_law_249 dL_law_250 dL_law_251 dL_law_252 ?_
  refine l_calli hS hfr (r_runV (n := 4) (As := [.int (xs (i + 1)), .int (xs (i + 2)), .int (xs (i + 3)), .int (xs (i + 4))]) (rest := []) CF hK hH (c_X8_raiseHill l G σ R C n sq hc.1 (xs (i + 1)) (xs (i + 2)) (xs (i + 3)) (xs (i + 4))) gL_law_X8_raiseHill rfl rfl rfl rfl (by decide +kernel) ⟨⟨Nat.le_of_ble_eq_true rfl, Nat.le_of_ble_eq_true rfl⟩, Nat.le_of_ble_eq_true rfl, Nat.le_of_ble_eq_true rfl⟩ 20 rfl (Nat.le_of_ble_eq_true rfl) rfl rfl rfl hl.1 rfl (Nat.le_of_ble_eq_true rfl) dL_law_253) (fun r1 σ1 H locs hq1 hH hS => ?_)
  have hm1 := IM_hi hm (hi_raiseHill hq1)
  refine lv_aload_n hx hb dL_law_256 rfl (lv_at hl 2 rfl) ?_
  refine l_rd hx hb hX hbl hL hS hl 1 (by decide) (by omega) dL_law_257 dL_law_258 dL_law_259 dL_law_260 dL_law_261 ?_
  refine l_rd hx hb hX hbl hL hS hl 2 (by decide) (by omega) dL_law_262 dL_law_263 dL_law_264 dL_law_265 dL_law_266 ?_
  refine l_rd hx hb hX hbl hL hS hl 3 (by decide) (by omega) dL_law_267 dL_law_268 dL_law_269 dL_law_270 dL_law_271 ?_
  refine l_rd hx hb hX hbl hL hS hl 4 (by decide) (by omega) dL_law_272 dL_law_273 dL_law_274 dL_law_275 dL_law_276 ?_
  refine l_calli hS hfr (r_runV (n := 4) (As := [.int (xs (i + 1)), .int (xs (i + 2)), .int (xs (i + 3)), .int (xs (i + 4))]) (rest := [.int r1]) CF hK hH (c_X9_raiseHill l G σ1 R C n sq hm1.1 (xs (i + 1)) (xs (i + 2)) (xs (i + 3)) (xs (i + 4))) gL_law_X9_raiseHill rfl rfl rfl rfl (by decide +kernel) ⟨⟨Nat.le_of_ble_eq_true rfl, Nat.le_of_ble_eq_true rfl⟩, Nat.le_of_ble_eq_true rfl, Nat.le_of_ble_eq_true rfl⟩ 29 rfl (Nat.le_of_ble_eq_true rfl) rfl rfl rfl hl.1 rfl (Nat.le_of_ble_eq_true rfl) dL_law_277) (fun r2 σ2 H locs hq2 hH hS => ?_)
  obtain ⟨he, hI⟩ := pr_raiseHill hc hm hq1 hq2
  exact lv_icmp_eq (tgt := 1043) hx hb dL_law_280 (by decide) (fun _ => kk σ2 H locs ls hI hH hS hl) (fun h => absurd he h)
set_option maxRecDepth 100000 in
set_option maxHeartbeats 4000000 in
/-- height -/
theorem law_height {p : Program} {l : Launch} {e : Env} {s : State} {m : MethodId} {below : List Frame} {meth : Method} {c : Code} {b L : Nat} {xs : Nat → Int32} {G : Gm} {i : Nat} (hx : p.tables.exec = Jvm.exec) (hb : c.code = cL_law) (hX : va_X b L xs s s.heap) (hbl : b < s.heap.size) (hL : L ≤ 2560) (CF : CallFix p m c cL_law 4 s #[Value.ref b] wsL_law RL) (hK : KK G s) (hfr : ∀ q, fr G q → AL s q) (hi : i + 5 ≤ L) (kk : LPt p l e s m below meth c b G i 1043) : LPt p l e s m below meth c b G i 285 := by
  intro σ H locs ls hI hH hS hl
  obtain ⟨R, C, n, sq, sp, g, cm, u, v, w, hc, hm⟩ := hI
  refine lv_aload_n hx hb dL_law_285 rfl (lv_at hl 1 rfl) ?_
  refine l_rd hx hb hX hbl hL hS hl 1 (by decide) (by omega) dL_law_286 dL_law_287 dL_law_288 dL_law_289 dL_law_290 ?_
  refine l_rd hx hb hX hbl hL hS hl 2 (by decide) (by omega) dL_law_291 dL_law_292 dL_law_293 dL_law_294 dL_law_295 ?_
  refine l_calli hS hfr (r_runV (n := 2) (As := [.int (xs (i + 1)), .int (xs (i + 2))]) (rest := []) CF hK hH (c_X8_height l G σ R C n sq hc.1 (xs (i + 1)) (xs (i + 2))) gL_law_X8_height rfl rfl rfl rfl (by decide +kernel) ⟨⟨Nat.le_of_ble_eq_true rfl, Nat.le_of_ble_eq_true rfl⟩, Nat.le_of_ble_eq_true rfl, Nat.le_of_ble_eq_true rfl⟩ 20 rfl (Nat.le_of_ble_eq_true rfl) rfl rfl rfl hl.1 rfl (Nat.le_of_ble_eq_true rfl) dL_law_296) (fun r1 σ1 H locs hq1 hH hS => ?_)
  obtain ⟨he1, hF1⟩ := hq1
  have hm1 : IM σ1 R C n sq sp g cm u v w := (by rw [hF1]; exact hm)
  have hc1 : IC σ1 R C n sq sp g cm u v w := (by rw [hF1]; exact hc)
  refine lv_aload_n hx hb dL_law_299 rfl (lv_at hl 2 rfl) ?_
  refine l_rd hx hb hX hbl hL hS hl 1 (by decide) (by omega) dL_law_300 dL_law_301 dL_law_302 dL_law_303 dL_law_304 ?_
  refine l_rd hx hb hX hbl hL hS hl 2 (by decide) (by omega) dL_law_305 dL_law_306 dL_law_307 dL_law_308 dL_law_309 ?_
  refine l_calli hS hfr (r_runV (n := 2) (As := [.int (xs (i + 1)), .int (xs (i + 2))]) (rest := [.int r1]) CF hK hH (c_X9_height l G σ1 R C n sq hm1.1 (xs (i + 1)) (xs (i + 2))) gL_law_X9_height rfl rfl rfl rfl (by decide +kernel) ⟨⟨Nat.le_of_ble_eq_true rfl, Nat.le_of_ble_eq_true rfl⟩, Nat.le_of_ble_eq_true rfl, Nat.le_of_ble_eq_true rfl⟩ 29 rfl (Nat.le_of_ble_eq_true rfl) rfl rfl rfl hl.1 rfl (Nat.le_of_ble_eq_true rfl) dL_law_310) (fun r2 σ2 H locs hq2 hH hS => ?_)
  obtain ⟨he2, hF2⟩ := hq2
  have he : r1 = r2 := (by rw [he1, he2, hc.2.2.1, hm1.2.2.1])
  have hI : INV σ2 := (by rw [hF2]; exact inv_same hc1 hm1 (lo_rf _))
  exact lv_icmp_eq (tgt := 1043) hx hb dL_law_313 (by decide) (fun _ => kk σ2 H locs ls hI hH hS hl) (fun h => absurd he h)
set_option maxRecDepth 100000 in
set_option maxHeartbeats 4000000 in
/-- setAltitude -/
theorem law_setAltitude {p : Program} {l : Launch} {e : Env} {s : State} {m : MethodId} {below : List Frame} {meth : Method} {c : Code} {b L : Nat} {xs : Nat → Int32} {G : Gm} {i : Nat} (hx : p.tables.exec = Jvm.exec) (hb : c.code = cL_law) (hX : va_X b L xs s s.heap) (hbl : b < s.heap.size) (hL : L ≤ 2560) (CF : CallFix p m c cL_law 4 s #[Value.ref b] wsL_law RL) (hK : KK G s) (hfr : ∀ q, fr G q → AL s q) (hi : i + 5 ≤ L) (kk : LPt p l e s m below meth c b G i 1043) : LPt p l e s m below meth c b G i 318 := by
  intro σ H locs ls hI hH hS hl
  obtain ⟨R, C, n, sq, sp, g, cm, u, v, w, hc, hm⟩ := hI
  refine lv_aload_n hx hb dL_law_318 rfl (lv_at hl 1 rfl) ?_
  refine l_rd hx hb hX hbl hL hS hl 1 (by decide) (by omega) dL_law_319 dL_law_320 dL_law_321 dL_law_322 dL_law_323 ?_
  refine l_calli hS hfr (r_runV (n := 1) (As := [.int (xs (i + 1))]) (rest := []) CF hK hH (c_X8_setAltitude l G σ (xs (i + 1))) gL_law_X8_setAltitude rfl rfl rfl rfl (by decide +kernel) ⟨⟨Nat.le_of_ble_eq_true rfl, Nat.le_of_ble_eq_true rfl⟩, Nat.le_of_ble_eq_true rfl, Nat.le_of_ble_eq_true rfl⟩ 20 rfl (Nat.le_of_ble_eq_true rfl) rfl rfl rfl hl.1 rfl (Nat.le_of_ble_eq_true rfl) dL_law_324) (fun r1 σ1 H locs hq1 hH hS => ?_)
  have hm1 := IM_hi hm (hi_setAltitude hq1)
  refine lv_aload_n hx hb dL_law_327 rfl (lv_at hl 2 rfl) ?_
  refine l_rd hx hb hX hbl hL hS hl 1 (by decide) (by omega) dL_law_328 dL_law_329 dL_law_330 dL_law_331 dL_law_332 ?_
  refine l_calli hS hfr (r_runV (n := 1) (As := [.int (xs (i + 1))]) (rest := [.int r1]) CF hK hH (c_X9_setAltitude l G σ1  (xs (i + 1))) gL_law_X9_setAltitude rfl rfl rfl rfl (by decide +kernel) ⟨⟨Nat.le_of_ble_eq_true rfl, Nat.le_of_ble_eq_true rfl⟩, Nat.le_of_ble_eq_true rfl, Nat.le_of_ble_eq_true rfl⟩ 29 rfl (Nat.le_of_ble_eq_true rfl) rfl rfl rfl hl.1 rfl (Nat.le_of_ble_eq_true rfl) dL_law_333) (fun r2 σ2 H locs hq2 hH hS => ?_)
  obtain ⟨he, hI⟩ := pr_setAltitude hc hm hq1 hq2
  exact lv_icmp_eq (tgt := 1043) hx hb dL_law_336 (by decide) (fun _ => kk σ2 H locs ls hI hH hS hl) (fun h => absurd he h)
set_option maxRecDepth 100000 in
set_option maxHeartbeats 4000000 in
/-- setFields -/
theorem law_setFields {p : Program} {l : Launch} {e : Env} {s : State} {m : MethodId} {below : List Frame} {meth : Method} {c : Code} {b L : Nat} {xs : Nat → Int32} {G : Gm} {i : Nat} (hx : p.tables.exec = Jvm.exec) (hb : c.code = cL_law) (hX : va_X b L xs s s.heap) (hbl : b < s.heap.size) (hL : L ≤ 2560) (CF : CallFix p m c cL_law 4 s #[Value.ref b] wsL_law RL) (hK : KK G s) (hfr : ∀ q, fr G q → AL s q) (hi : i + 5 ≤ L) (kk : LPt p l e s m below meth c b G i 1043) : LPt p l e s m below meth c b G i 341 := by
  intro σ H locs ls hI hH hS hl
  obtain ⟨R, C, n, sq, sp, g, cm, u, v, w, hc, hm⟩ := hI
  refine lv_aload_n hx hb dL_law_341 rfl (lv_at hl 1 rfl) ?_
  refine l_rd hx hb hX hbl hL hS hl 1 (by decide) (by omega) dL_law_342 dL_law_343 dL_law_344 dL_law_345 dL_law_346 ?_
  refine l_rd hx hb hX hbl hL hS hl 2 (by decide) (by omega) dL_law_347 dL_law_348 dL_law_349 dL_law_350 dL_law_351 ?_
  refine l_calli hS hfr (r_runV (n := 2) (As := [.int (xs (i + 1)), .int (xs (i + 2))]) (rest := []) CF hK hH (c_X8_setFields l G σ (xs (i + 1)) (xs (i + 2))) gL_law_X8_setFields rfl rfl rfl rfl (by decide +kernel) ⟨⟨Nat.le_of_ble_eq_true rfl, Nat.le_of_ble_eq_true rfl⟩, Nat.le_of_ble_eq_true rfl, Nat.le_of_ble_eq_true rfl⟩ 20 rfl (Nat.le_of_ble_eq_true rfl) rfl rfl rfl hl.1 rfl (Nat.le_of_ble_eq_true rfl) dL_law_352) (fun r1 σ1 H locs hq1 hH hS => ?_)
  have hm1 := IM_hi hm (hi_setFields hq1)
  refine lv_aload_n hx hb dL_law_355 rfl (lv_at hl 2 rfl) ?_
  refine l_rd hx hb hX hbl hL hS hl 1 (by decide) (by omega) dL_law_356 dL_law_357 dL_law_358 dL_law_359 dL_law_360 ?_
  refine l_rd hx hb hX hbl hL hS hl 2 (by decide) (by omega) dL_law_361 dL_law_362 dL_law_363 dL_law_364 dL_law_365 ?_
  refine l_calli hS hfr (r_runV (n := 2) (As := [.int (xs (i + 1)), .int (xs (i + 2))]) (rest := [.int r1]) CF hK hH (c_X9_setFields l G σ1  (xs (i + 1)) (xs (i + 2))) gL_law_X9_setFields rfl rfl rfl rfl (by decide +kernel) ⟨⟨Nat.le_of_ble_eq_true rfl, Nat.le_of_ble_eq_true rfl⟩, Nat.le_of_ble_eq_true rfl, Nat.le_of_ble_eq_true rfl⟩ 29 rfl (Nat.le_of_ble_eq_true rfl) rfl rfl rfl hl.1 rfl (Nat.le_of_ble_eq_true rfl) dL_law_366) (fun r2 σ2 H locs hq2 hH hS => ?_)
  obtain ⟨he, hI⟩ := pr_setFields hc hm hq1 hq2
  exact lv_icmp_eq (tgt := 1043) hx hb dL_law_369 (by decide) (fun _ => kk σ2 H locs ls hI hH hS hl) (fun h => absurd he h)
set_option maxRecDepth 100000 in
set_option maxHeartbeats 4000000 in
/-- setCrab -/
theorem law_setCrab {p : Program} {l : Launch} {e : Env} {s : State} {m : MethodId} {below : List Frame} {meth : Method} {c : Code} {b L : Nat} {xs : Nat → Int32} {G : Gm} {i : Nat} (hx : p.tables.exec = Jvm.exec) (hb : c.code = cL_law) (hX : va_X b L xs s s.heap) (hbl : b < s.heap.size) (hL : L ≤ 2560) (CF : CallFix p m c cL_law 4 s #[Value.ref b] wsL_law RL) (hK : KK G s) (hfr : ∀ q, fr G q → AL s q) (hi : i + 5 ≤ L) (kk : LPt p l e s m below meth c b G i 1043) : LPt p l e s m below meth c b G i 374 := by
  intro σ H locs ls hI hH hS hl
  obtain ⟨R, C, n, sq, sp, g, cm, u, v, w, hc, hm⟩ := hI
  refine lv_aload_n hx hb dL_law_374 rfl (lv_at hl 1 rfl) ?_
  refine l_rd hx hb hX hbl hL hS hl 1 (by decide) (by omega) dL_law_375 dL_law_376 dL_law_377 dL_law_378 dL_law_379 ?_
  refine l_calli hS hfr (r_runV (n := 1) (As := [.int (xs (i + 1))]) (rest := []) CF hK hH (c_X8_setCrab l G σ (xs (i + 1))) gL_law_X8_setCrab rfl rfl rfl rfl (by decide +kernel) ⟨⟨Nat.le_of_ble_eq_true rfl, Nat.le_of_ble_eq_true rfl⟩, Nat.le_of_ble_eq_true rfl, Nat.le_of_ble_eq_true rfl⟩ 20 rfl (Nat.le_of_ble_eq_true rfl) rfl rfl rfl hl.1 rfl (Nat.le_of_ble_eq_true rfl) dL_law_380) (fun r1 σ1 H locs hq1 hH hS => ?_)
  have hm1 := IM_hi hm (hi_setCrab hq1)
  refine lv_aload_n hx hb dL_law_383 rfl (lv_at hl 2 rfl) ?_
  refine l_rd hx hb hX hbl hL hS hl 1 (by decide) (by omega) dL_law_384 dL_law_385 dL_law_386 dL_law_387 dL_law_388 ?_
  refine l_calli hS hfr (r_runV (n := 1) (As := [.int (xs (i + 1))]) (rest := [.int r1]) CF hK hH (c_X9_setCrab l G σ1  (xs (i + 1))) gL_law_X9_setCrab rfl rfl rfl rfl (by decide +kernel) ⟨⟨Nat.le_of_ble_eq_true rfl, Nat.le_of_ble_eq_true rfl⟩, Nat.le_of_ble_eq_true rfl, Nat.le_of_ble_eq_true rfl⟩ 29 rfl (Nat.le_of_ble_eq_true rfl) rfl rfl rfl hl.1 rfl (Nat.le_of_ble_eq_true rfl) dL_law_389) (fun r2 σ2 H locs hq2 hH hS => ?_)
  obtain ⟨he, hI⟩ := pr_setCrab hc hm hq1 hq2
  exact lv_icmp_eq (tgt := 1043) hx hb dL_law_392 (by decide) (fun _ => kk σ2 H locs ls hI hH hS hl) (fun h => absurd he h)
set_option maxRecDepth 100000 in
set_option maxHeartbeats 4000000 in
/-- setSpeed -/
theorem law_setSpeed {p : Program} {l : Launch} {e : Env} {s : State} {m : MethodId} {below : List Frame} {meth : Method} {c : Code} {b L : Nat} {xs : Nat → Int32} {G : Gm} {i : Nat} (hx : p.tables.exec = Jvm.exec) (hb : c.code = cL_law) (hX : va_X b L xs s s.heap) (hbl : b < s.heap.size) (hL : L ≤ 2560) (CF : CallFix p m c cL_law 4 s #[Value.ref b] wsL_law RL) (hK : KK G s) (hfr : ∀ q, fr G q → AL s q) (hi : i + 5 ≤ L) (kk : LPt p l e s m below meth c b G i 1043) : LPt p l e s m below meth c b G i 397 := by
  intro σ H locs ls hI hH hS hl
  obtain ⟨R, C, n, sq, sp, g, cm, u, v, w, hc, hm⟩ := hI
  refine lv_aload_n hx hb dL_law_397 rfl (lv_at hl 1 rfl) ?_
  refine l_rd hx hb hX hbl hL hS hl 1 (by decide) (by omega) dL_law_398 dL_law_399 dL_law_400 dL_law_401 dL_law_402 ?_
  refine l_rd hx hb hX hbl hL hS hl 2 (by decide) (by omega) dL_law_403 dL_law_404 dL_law_405 dL_law_406 dL_law_407 ?_
  refine l_rd hx hb hX hbl hL hS hl 3 (by decide) (by omega) dL_law_408 dL_law_409 dL_law_410 dL_law_411 dL_law_412 ?_
  refine l_calli hS hfr (r_runV (n := 3) (As := [.int (xs (i + 1)), .int (xs (i + 2)), .int (xs (i + 3))]) (rest := []) CF hK hH (c_X8_setSpeed l G σ (xs (i + 1)) (xs (i + 2)) (xs (i + 3))) gL_law_X8_setSpeed rfl rfl rfl rfl (by decide +kernel) ⟨⟨Nat.le_of_ble_eq_true rfl, Nat.le_of_ble_eq_true rfl⟩, Nat.le_of_ble_eq_true rfl, Nat.le_of_ble_eq_true rfl⟩ 20 rfl (Nat.le_of_ble_eq_true rfl) rfl rfl rfl hl.1 rfl (Nat.le_of_ble_eq_true rfl) dL_law_413) (fun r1 σ1 H locs hq1 hH hS => ?_)
  have hm1 := IM_hi hm (hi_setSpeed hq1)
  refine lv_aload_n hx hb dL_law_416 rfl (lv_at hl 2 rfl) ?_
  refine l_rd hx hb hX hbl hL hS hl 1 (by decide) (by omega) dL_law_417 dL_law_418 dL_law_419 dL_law_420 dL_law_421 ?_
  refine l_rd hx hb hX hbl hL hS hl 2 (by decide) (by omega) dL_law_422 dL_law_423 dL_law_424 dL_law_425 dL_law_426 ?_
  refine l_rd hx hb hX hbl hL hS hl 3 (by decide) (by omega) dL_law_427 dL_law_428 dL_law_429 dL_law_430 dL_law_431 ?_
  refine l_calli hS hfr (r_runV (n := 3) (As := [.int (xs (i + 1)), .int (xs (i + 2)), .int (xs (i + 3))]) (rest := [.int r1]) CF hK hH (c_X9_setSpeed l G σ1  (xs (i + 1)) (xs (i + 2)) (xs (i + 3))) gL_law_X9_setSpeed rfl rfl rfl rfl (by decide +kernel) ⟨⟨Nat.le_of_ble_eq_true rfl, Nat.le_of_ble_eq_true rfl⟩, Nat.le_of_ble_eq_true rfl, Nat.le_of_ble_eq_true rfl⟩ 29 rfl (Nat.le_of_ble_eq_true rfl) rfl rfl rfl hl.1 rfl (Nat.le_of_ble_eq_true rfl) dL_law_432) (fun r2 σ2 H locs hq2 hH hS => ?_)
  obtain ⟨he, hI⟩ := pr_setSpeed hc hm hq1 hq2
  exact lv_icmp_eq (tgt := 1043) hx hb dL_law_435 (by decide) (fun _ => kk σ2 H locs ls hI hH hS hl) (fun h => absurd he h)
set_option maxRecDepth 100000 in
set_option maxHeartbeats 4000000 in
/-- addStrip -/
theorem law_addStrip {p : Program} {l : Launch} {e : Env} {s : State} {m : MethodId} {below : List Frame} {meth : Method} {c : Code} {b L : Nat} {xs : Nat → Int32} {G : Gm} {i : Nat} (hx : p.tables.exec = Jvm.exec) (hb : c.code = cL_law) (hX : va_X b L xs s s.heap) (hbl : b < s.heap.size) (hL : L ≤ 2560) (CF : CallFix p m c cL_law 4 s #[Value.ref b] wsL_law RL) (hK : KK G s) (hfr : ∀ q, fr G q → AL s q) (hi : i + 5 ≤ L) (kk : LPt p l e s m below meth c b G i 1043) : LPt p l e s m below meth c b G i 440 := by
  intro σ H locs ls hI hH hS hl
  obtain ⟨R, C, n, sq, sp, g, cm, u, v, w, hc, hm⟩ := hI
  refine lv_aload_n hx hb dL_law_440 rfl (lv_at hl 1 rfl) ?_
  refine l_rd hx hb hX hbl hL hS hl 1 (by decide) (by omega) dL_law_441 dL_law_442 dL_law_443 dL_law_444 dL_law_445 ?_
  refine l_rd hx hb hX hbl hL hS hl 2 (by decide) (by omega) dL_law_446 dL_law_447 dL_law_448 dL_law_449 dL_law_450 ?_
  refine l_rd hx hb hX hbl hL hS hl 3 (by decide) (by omega) dL_law_451 dL_law_452 dL_law_453 dL_law_454 dL_law_455 ?_
  refine l_rd hx hb hX hbl hL hS hl 4 (by decide) (by omega) dL_law_456 dL_law_457 dL_law_458 dL_law_459 dL_law_460 ?_
  refine l_calli hS hfr (r_runV (n := 4) (As := [.int (xs (i + 1)), .int (xs (i + 2)), .int (xs (i + 3)), .int (xs (i + 4))]) (rest := []) CF hK hH (c_X8_addStrip l G σ R C n sq hc.1 (xs (i + 1)) (xs (i + 2)) (xs (i + 3)) (xs (i + 4))) gL_law_X8_addStrip rfl rfl rfl rfl (by decide +kernel) ⟨⟨Nat.le_of_ble_eq_true rfl, Nat.le_of_ble_eq_true rfl⟩, Nat.le_of_ble_eq_true rfl, Nat.le_of_ble_eq_true rfl⟩ 20 rfl (Nat.le_of_ble_eq_true rfl) rfl rfl rfl hl.1 rfl (Nat.le_of_ble_eq_true rfl) dL_law_461) (fun r1 σ1 H locs hq1 hH hS => ?_)
  have hm1 := IM_hi hm (hi_addStrip hc.1.2.2.2.2.2.2.2.2.1 hq1)
  refine lv_aload_n hx hb dL_law_464 rfl (lv_at hl 2 rfl) ?_
  refine l_rd hx hb hX hbl hL hS hl 1 (by decide) (by omega) dL_law_465 dL_law_466 dL_law_467 dL_law_468 dL_law_469 ?_
  refine l_rd hx hb hX hbl hL hS hl 2 (by decide) (by omega) dL_law_470 dL_law_471 dL_law_472 dL_law_473 dL_law_474 ?_
  refine l_rd hx hb hX hbl hL hS hl 3 (by decide) (by omega) dL_law_475 dL_law_476 dL_law_477 dL_law_478 dL_law_479 ?_
  refine l_rd hx hb hX hbl hL hS hl 4 (by decide) (by omega) dL_law_480 dL_law_481 dL_law_482 dL_law_483 dL_law_484 ?_
  refine l_calli hS hfr (r_runV (n := 4) (As := [.int (xs (i + 1)), .int (xs (i + 2)), .int (xs (i + 3)), .int (xs (i + 4))]) (rest := [.int r1]) CF hK hH (c_X9_addStrip l G σ1 R C n sq hm1.1 (xs (i + 1)) (xs (i + 2)) (xs (i + 3)) (xs (i + 4))) gL_law_X9_addStrip rfl rfl rfl rfl (by decide +kernel) ⟨⟨Nat.le_of_ble_eq_true rfl, Nat.le_of_ble_eq_true rfl⟩, Nat.le_of_ble_eq_true rfl, Nat.le_of_ble_eq_true rfl⟩ 29 rfl (Nat.le_of_ble_eq_true rfl) rfl rfl rfl hl.1 rfl (Nat.le_of_ble_eq_true rfl) dL_law_485) (fun r2 σ2 H locs hq2 hH hS => ?_)
  obtain ⟨he, hI⟩ := pr_addStrip hc hm hq1 hq2
  exact lv_icmp_eq (tgt := 1043) hx hb dL_law_488 (by decide) (fun _ => kk σ2 H locs ls hI hH hS hl) (fun h => absurd he h)
set_option maxRecDepth 100000 in
set_option maxHeartbeats 4000000 in
/-- removeStrip -/
theorem law_removeStrip {p : Program} {l : Launch} {e : Env} {s : State} {m : MethodId} {below : List Frame} {meth : Method} {c : Code} {b L : Nat} {xs : Nat → Int32} {G : Gm} {i : Nat} (hx : p.tables.exec = Jvm.exec) (hb : c.code = cL_law) (hX : va_X b L xs s s.heap) (hbl : b < s.heap.size) (hL : L ≤ 2560) (CF : CallFix p m c cL_law 4 s #[Value.ref b] wsL_law RL) (hK : KK G s) (hfr : ∀ q, fr G q → AL s q) (hi : i + 5 ≤ L) (kk : LPt p l e s m below meth c b G i 1043) : LPt p l e s m below meth c b G i 493 := by
  intro σ H locs ls hI hH hS hl
  obtain ⟨R, C, n, sq, sp, g, cm, u, v, w, hc, hm⟩ := hI
  refine lv_aload_n hx hb dL_law_493 rfl (lv_at hl 1 rfl) ?_
  refine l_rd hx hb hX hbl hL hS hl 1 (by decide) (by omega) dL_law_494 dL_law_495 dL_law_496 dL_law_497 dL_law_498 ?_
  refine l_calli hS hfr (r_runV (n := 1) (As := [.int (xs (i + 1))]) (rest := []) CF hK hH (c_X8_removeStrip l G σ R C n sq hc.1 (xs (i + 1))) gL_law_X8_removeStrip rfl rfl rfl rfl (by decide +kernel) ⟨⟨Nat.le_of_ble_eq_true rfl, Nat.le_of_ble_eq_true rfl⟩, Nat.le_of_ble_eq_true rfl, Nat.le_of_ble_eq_true rfl⟩ 20 rfl (Nat.le_of_ble_eq_true rfl) rfl rfl rfl hl.1 rfl (Nat.le_of_ble_eq_true rfl) dL_law_499) (fun r1 σ1 H locs hq1 hH hS => ?_)
  have hm1 := IM_hi hm (hi_removeStrip hc.1.2.2.2.2.2.2.2.2.1 hq1)
  refine lv_aload_n hx hb dL_law_502 rfl (lv_at hl 2 rfl) ?_
  refine l_rd hx hb hX hbl hL hS hl 1 (by decide) (by omega) dL_law_503 dL_law_504 dL_law_505 dL_law_506 dL_law_507 ?_
  refine l_calli hS hfr (r_runV (n := 1) (As := [.int (xs (i + 1))]) (rest := [.int r1]) CF hK hH (c_X9_removeStrip l G σ1 n hm1.1.2.2.2.2.2.2.1 hm1.1.2.2.2.2.2.2.2.1 (xs (i + 1))) gL_law_X9_removeStrip rfl rfl rfl rfl (by decide +kernel) ⟨⟨Nat.le_of_ble_eq_true rfl, Nat.le_of_ble_eq_true rfl⟩, Nat.le_of_ble_eq_true rfl, Nat.le_of_ble_eq_true rfl⟩ 29 rfl (Nat.le_of_ble_eq_true rfl) rfl rfl rfl hl.1 rfl (Nat.le_of_ble_eq_true rfl) dL_law_508) (fun r2 σ2 H locs hq2 hH hS => ?_)
  obtain ⟨he, hI⟩ := pr_removeStrip hc hm hq1 hq2
  exact lv_icmp_eq (tgt := 1043) hx hb dL_law_511 (by decide) (fun _ => kk σ2 H locs ls hI hH hS hl) (fun h => absurd he h)
set_option maxRecDepth 100000 in
set_option maxHeartbeats 4000000 in
/-- stripCount -/
theorem law_stripCount {p : Program} {l : Launch} {e : Env} {s : State} {m : MethodId} {below : List Frame} {meth : Method} {c : Code} {b L : Nat} {xs : Nat → Int32} {G : Gm} {i : Nat} (hx : p.tables.exec = Jvm.exec) (hb : c.code = cL_law) (hX : va_X b L xs s s.heap) (hbl : b < s.heap.size) (hL : L ≤ 2560) (CF : CallFix p m c cL_law 4 s #[Value.ref b] wsL_law RL) (hK : KK G s) (hfr : ∀ q, fr G q → AL s q) (hi : i + 5 ≤ L) (kk : LPt p l e s m below meth c b G i 1043) : LPt p l e s m below meth c b G i 516 := by
  intro σ H locs ls hI hH hS hl
  obtain ⟨R, C, n, sq, sp, g, cm, u, v, w, hc, hm⟩ := hI
  refine lv_aload_n hx hb dL_law_516 rfl (lv_at hl 1 rfl) ?_
  refine l_calli hS hfr (r_runV (n := 0) (As := []) (rest := []) CF hK hH (c_X8_stripCount l G σ R C n sq hc.1 ) gL_law_X8_stripCount rfl rfl rfl rfl (by decide +kernel) ⟨⟨Nat.le_of_ble_eq_true rfl, Nat.le_of_ble_eq_true rfl⟩, Nat.le_of_ble_eq_true rfl, Nat.le_of_ble_eq_true rfl⟩ 20 rfl (Nat.le_of_ble_eq_true rfl) rfl rfl rfl hl.1 rfl (Nat.le_of_ble_eq_true rfl) dL_law_517) (fun r1 σ1 H locs hq1 hH hS => ?_)
  obtain ⟨he1, hF1⟩ := hq1
  have hm1 : IM σ1 R C n sq sp g cm u v w := (by rw [hF1]; exact hm)
  have hc1 : IC σ1 R C n sq sp g cm u v w := (by rw [hF1]; exact hc)
  refine lv_aload_n hx hb dL_law_520 rfl (lv_at hl 2 rfl) ?_
  refine l_calli hS hfr (r_runV (n := 0) (As := []) (rest := [.int r1]) CF hK hH (c_X9_stripCount l G σ1 n hm1.1.2.2.2.2.2.2.1 ) gL_law_X9_stripCount rfl rfl rfl rfl (by decide +kernel) ⟨⟨Nat.le_of_ble_eq_true rfl, Nat.le_of_ble_eq_true rfl⟩, Nat.le_of_ble_eq_true rfl, Nat.le_of_ble_eq_true rfl⟩ 29 rfl (Nat.le_of_ble_eq_true rfl) rfl rfl rfl hl.1 rfl (Nat.le_of_ble_eq_true rfl) dL_law_521) (fun r2 σ2 H locs hq2 hH hS => ?_)
  obtain ⟨he2, hF2⟩ := hq2
  have he : r1 = r2 := he1.trans he2.symm
  have hI : INV σ2 := (by rw [hF2]; exact inv_same hc1 hm1 (lo_rf _))
  exact lv_icmp_eq (tgt := 1043) hx hb dL_law_524 (by decide) (fun _ => kk σ2 H locs ls hI hH hS hl) (fun h => absurd he h)
set_option maxRecDepth 100000 in
set_option maxHeartbeats 4000000 in
/-- photoCount -/
theorem law_photoCount {p : Program} {l : Launch} {e : Env} {s : State} {m : MethodId} {below : List Frame} {meth : Method} {c : Code} {b L : Nat} {xs : Nat → Int32} {G : Gm} {i : Nat} (hx : p.tables.exec = Jvm.exec) (hb : c.code = cL_law) (hX : va_X b L xs s s.heap) (hbl : b < s.heap.size) (hL : L ≤ 2560) (CF : CallFix p m c cL_law 4 s #[Value.ref b] wsL_law RL) (hK : KK G s) (hfr : ∀ q, fr G q → AL s q) (hi : i + 5 ≤ L) (kk : LPt p l e s m below meth c b G i 1043) : LPt p l e s m below meth c b G i 529 := by
  intro σ H locs ls hI hH hS hl
  obtain ⟨R, C, n, sq, sp, g, cm, u, v, w, hc, hm⟩ := hI
  refine lv_aload_n hx hb dL_law_529 rfl (lv_at hl 1 rfl) ?_
  refine l_rd hx hb hX hbl hL hS hl 1 (by decide) (by omega) dL_law_530 dL_law_531 dL_law_532 dL_law_533 dL_law_534 ?_
  refine l_calli hS hfr (r_runV (n := 1) (As := [.int (xs (i + 1))]) (rest := []) CF hK hH (c_X8_photoCount l G σ R C n sq hc.1 (xs (i + 1))) gL_law_X8_photoCount rfl rfl rfl rfl (by decide +kernel) ⟨⟨Nat.le_of_ble_eq_true rfl, Nat.le_of_ble_eq_true rfl⟩, Nat.le_of_ble_eq_true rfl, Nat.le_of_ble_eq_true rfl⟩ 20 rfl (Nat.le_of_ble_eq_true rfl) rfl rfl rfl hl.1 rfl (Nat.le_of_ble_eq_true rfl) dL_law_535) (fun r1 σ1 H locs hq1 hH hS => ?_)
  obtain ⟨he1, hF1⟩ := hq1
  have hm1 : IM σ1 R C n sq sp g cm u v w := (by rw [hF1]; exact hm)
  have hc1 : IC σ1 R C n sq sp g cm u v w := (by rw [hF1]; exact hc)
  refine lv_aload_n hx hb dL_law_538 rfl (lv_at hl 2 rfl) ?_
  refine l_rd hx hb hX hbl hL hS hl 1 (by decide) (by omega) dL_law_539 dL_law_540 dL_law_541 dL_law_542 dL_law_543 ?_
  refine l_calli hS hfr (r_runV (n := 1) (As := [.int (xs (i + 1))]) (rest := [.int r1]) CF hK hH (c_X9_photoCount l G σ1 n sq hm1.1.2.2.2.2.2.2 (xs (i + 1))) gL_law_X9_photoCount rfl rfl rfl rfl (by decide +kernel) ⟨⟨Nat.le_of_ble_eq_true rfl, Nat.le_of_ble_eq_true rfl⟩, Nat.le_of_ble_eq_true rfl, Nat.le_of_ble_eq_true rfl⟩ 29 rfl (Nat.le_of_ble_eq_true rfl) rfl rfl rfl hl.1 rfl (Nat.le_of_ble_eq_true rfl) dL_law_544) (fun r2 σ2 H locs hq2 hH hS => ?_)
  obtain ⟨he2, hF2⟩ := hq2
  have he : r1 = r2 := he1.trans he2.symm
  have hI : INV σ2 := (by rw [hF2]; exact inv_same hc1 hm1 (lo_rf _))
  exact lv_icmp_eq (tgt := 1043) hx hb dL_law_547 (by decide) (fun _ => kk σ2 H locs ls hI hH hS hl) (fun h => absurd he h)
set_option maxRecDepth 100000 in
set_option maxHeartbeats 4000000 in
/-- photoColumn -/
theorem law_photoColumn {p : Program} {l : Launch} {e : Env} {s : State} {m : MethodId} {below : List Frame} {meth : Method} {c : Code} {b L : Nat} {xs : Nat → Int32} {G : Gm} {i : Nat} (hx : p.tables.exec = Jvm.exec) (hb : c.code = cL_law) (hX : va_X b L xs s s.heap) (hbl : b < s.heap.size) (hL : L ≤ 2560) (CF : CallFix p m c cL_law 4 s #[Value.ref b] wsL_law RL) (hK : KK G s) (hfr : ∀ q, fr G q → AL s q) (hi : i + 5 ≤ L) (kk : LPt p l e s m below meth c b G i 1043) : LPt p l e s m below meth c b G i 552 := by
  intro σ H locs ls hI hH hS hl
  obtain ⟨R, C, n, sq, sp, g, cm, u, v, w, hc, hm⟩ := hI
  refine lv_aload_n hx hb dL_law_552 rfl (lv_at hl 1 rfl) ?_
  refine l_rd hx hb hX hbl hL hS hl 1 (by decide) (by omega) dL_law_553 dL_law_554 dL_law_555 dL_law_556 dL_law_557 ?_
  refine l_rd hx hb hX hbl hL hS hl 2 (by decide) (by omega) dL_law_558 dL_law_559 dL_law_560 dL_law_561 dL_law_562 ?_
  refine l_calli hS hfr (r_runV (n := 2) (As := [.int (xs (i + 1)), .int (xs (i + 2))]) (rest := []) CF hK hH (c_X8_photoColumn l G σ R C n sq hc.1 (xs (i + 1)) (xs (i + 2))) gL_law_X8_photoColumn rfl rfl rfl rfl (by decide +kernel) ⟨⟨Nat.le_of_ble_eq_true rfl, Nat.le_of_ble_eq_true rfl⟩, Nat.le_of_ble_eq_true rfl, Nat.le_of_ble_eq_true rfl⟩ 20 rfl (Nat.le_of_ble_eq_true rfl) rfl rfl rfl hl.1 rfl (Nat.le_of_ble_eq_true rfl) dL_law_563) (fun r1 σ1 H locs hq1 hH hS => ?_)
  obtain ⟨he1, hF1⟩ := hq1
  have hm1 : IM σ1 R C n sq sp g cm u v w := (by rw [hF1]; exact hm)
  have hc1 : IC σ1 R C n sq sp g cm u v w := (by rw [hF1]; exact hc)
  refine lv_aload_n hx hb dL_law_566 rfl (lv_at hl 2 rfl) ?_
  refine l_rd hx hb hX hbl hL hS hl 1 (by decide) (by omega) dL_law_567 dL_law_568 dL_law_569 dL_law_570 dL_law_571 ?_
  refine l_rd hx hb hX hbl hL hS hl 2 (by decide) (by omega) dL_law_572 dL_law_573 dL_law_574 dL_law_575 dL_law_576 ?_
  refine l_calli hS hfr (r_runV (n := 2) (As := [.int (xs (i + 1)), .int (xs (i + 2))]) (rest := [.int r1]) CF hK hH (c_X9_photoColumn l G σ1 n sq hm1.1.2.2.2.2.2.2 (xs (i + 1)) (xs (i + 2))) gL_law_X9_photoColumn rfl rfl rfl rfl (by decide +kernel) ⟨⟨Nat.le_of_ble_eq_true rfl, Nat.le_of_ble_eq_true rfl⟩, Nat.le_of_ble_eq_true rfl, Nat.le_of_ble_eq_true rfl⟩ 29 rfl (Nat.le_of_ble_eq_true rfl) rfl rfl rfl hl.1 rfl (Nat.le_of_ble_eq_true rfl) dL_law_577) (fun r2 σ2 H locs hq2 hH hS => ?_)
  obtain ⟨he2, hF2⟩ := hq2
  have he : r1 = r2 := he1.trans he2.symm
  have hI : INV σ2 := (by rw [hF2]; exact inv_same hc1 hm1 (lo_rf _))
  exact lv_icmp_eq (tgt := 1043) hx hb dL_law_580 (by decide) (fun _ => kk σ2 H locs ls hI hH hS hl) (fun h => absurd he h)
set_option maxRecDepth 100000 in
set_option maxHeartbeats 4000000 in
/-- seesCell -/
theorem law_seesCell {p : Program} {l : Launch} {e : Env} {s : State} {m : MethodId} {below : List Frame} {meth : Method} {c : Code} {b L : Nat} {xs : Nat → Int32} {G : Gm} {i : Nat} (hx : p.tables.exec = Jvm.exec) (hb : c.code = cL_law) (hX : va_X b L xs s s.heap) (hbl : b < s.heap.size) (hL : L ≤ 2560) (CF : CallFix p m c cL_law 4 s #[Value.ref b] wsL_law RL) (hK : KK G s) (hfr : ∀ q, fr G q → AL s q) (hi : i + 5 ≤ L) (kk : LPt p l e s m below meth c b G i 1043) : LPt p l e s m below meth c b G i 585 := by
  intro σ H locs ls hI hH hS hl
  obtain ⟨R, C, n, sq, sp, g, cm, u, v, w, hc, hm⟩ := hI
  refine lv_aload_n hx hb dL_law_585 rfl (lv_at hl 1 rfl) ?_
  refine l_rd hx hb hX hbl hL hS hl 1 (by decide) (by omega) dL_law_586 dL_law_587 dL_law_588 dL_law_589 dL_law_590 ?_
  refine l_rd hx hb hX hbl hL hS hl 2 (by decide) (by omega) dL_law_591 dL_law_592 dL_law_593 dL_law_594 dL_law_595 ?_
  refine l_rd hx hb hX hbl hL hS hl 3 (by decide) (by omega) dL_law_596 dL_law_597 dL_law_598 dL_law_599 dL_law_600 ?_
  refine l_rd hx hb hX hbl hL hS hl 4 (by decide) (by omega) dL_law_601 dL_law_602 dL_law_603 dL_law_604 dL_law_605 ?_
  refine l_calli hS hfr (r_runV (n := 4) (As := [.int (xs (i + 1)), .int (xs (i + 2)), .int (xs (i + 3)), .int (xs (i + 4))]) (rest := []) CF hK hH (c_X8_seesCell l G σ R C n sq hc.1 (xs (i + 1)) (xs (i + 2)) (xs (i + 3)) (xs (i + 4))) gL_law_X8_seesCell rfl rfl rfl rfl (by decide +kernel) ⟨⟨Nat.le_of_ble_eq_true rfl, Nat.le_of_ble_eq_true rfl⟩, Nat.le_of_ble_eq_true rfl, Nat.le_of_ble_eq_true rfl⟩ 20 rfl (Nat.le_of_ble_eq_true rfl) rfl rfl rfl hl.1 rfl (Nat.le_of_ble_eq_true rfl) dL_law_606) (fun r1 σ1 H locs hq1 hH hS => ?_)
  obtain ⟨he1, hF1⟩ := hq1
  have hm1 : IM σ1 R C n sq sp g cm u v w := (by rw [hF1]; exact hm)
  have hc1 : IC σ1 R C n sq sp g cm u v w := (by rw [hF1]; exact hc)
  refine lv_aload_n hx hb dL_law_609 rfl (lv_at hl 2 rfl) ?_
  refine l_rd hx hb hX hbl hL hS hl 1 (by decide) (by omega) dL_law_610 dL_law_611 dL_law_612 dL_law_613 dL_law_614 ?_
  refine l_rd hx hb hX hbl hL hS hl 2 (by decide) (by omega) dL_law_615 dL_law_616 dL_law_617 dL_law_618 dL_law_619 ?_
  refine l_rd hx hb hX hbl hL hS hl 3 (by decide) (by omega) dL_law_620 dL_law_621 dL_law_622 dL_law_623 dL_law_624 ?_
  refine l_rd hx hb hX hbl hL hS hl 4 (by decide) (by omega) dL_law_625 dL_law_626 dL_law_627 dL_law_628 dL_law_629 ?_
  refine l_calli hS hfr (r_runV (n := 4) (As := [.int (xs (i + 1)), .int (xs (i + 2)), .int (xs (i + 3)), .int (xs (i + 4))]) (rest := [.int r1]) CF hK hH (c_X9_seesCell l G σ1 R C n sq hm1.1 (xs (i + 1)) (xs (i + 2)) (xs (i + 3)) (xs (i + 4))) gL_law_X9_seesCell rfl rfl rfl rfl (by decide +kernel) ⟨⟨Nat.le_of_ble_eq_true rfl, Nat.le_of_ble_eq_true rfl⟩, Nat.le_of_ble_eq_true rfl, Nat.le_of_ble_eq_true rfl⟩ 29 rfl (Nat.le_of_ble_eq_true rfl) rfl rfl rfl hl.1 rfl (Nat.le_of_ble_eq_true rfl) dL_law_630) (fun r2 σ2 H locs hq2 hH hS => ?_)
  obtain ⟨he2, hF2⟩ := hq2
  have he : r1 = r2 := (by rw [he1, he2, hc.2.2.1, hc.2.2.2.1, hm1.2.2.1, hm1.2.2.2.1])
  have hI : INV σ2 := (by rw [hF2]; exact inv_same hc1 hm1 (lo_rf _))
  exact lv_icmp_eq (tgt := 1043) hx hb dL_law_633 (by decide) (fun _ => kk σ2 H locs ls hI hH hS hl) (fun h => absurd he h)
set_option maxRecDepth 100000 in
set_option maxHeartbeats 4000000 in
/-- footprintSize -/
theorem law_footprintSize {p : Program} {l : Launch} {e : Env} {s : State} {m : MethodId} {below : List Frame} {meth : Method} {c : Code} {b L : Nat} {xs : Nat → Int32} {G : Gm} {i : Nat} (hx : p.tables.exec = Jvm.exec) (hb : c.code = cL_law) (hX : va_X b L xs s s.heap) (hbl : b < s.heap.size) (hL : L ≤ 2560) (CF : CallFix p m c cL_law 4 s #[Value.ref b] wsL_law RL) (hK : KK G s) (hfr : ∀ q, fr G q → AL s q) (hi : i + 5 ≤ L) (kk : LPt p l e s m below meth c b G i 1043) : LPt p l e s m below meth c b G i 638 := by
  intro σ H locs ls hI hH hS hl
  obtain ⟨R, C, n, sq, sp, g, cm, u, v, w, hc, hm⟩ := hI
  refine lv_aload_n hx hb dL_law_638 rfl (lv_at hl 1 rfl) ?_
  refine l_rd hx hb hX hbl hL hS hl 1 (by decide) (by omega) dL_law_639 dL_law_640 dL_law_641 dL_law_642 dL_law_643 ?_
  refine l_rd hx hb hX hbl hL hS hl 2 (by decide) (by omega) dL_law_644 dL_law_645 dL_law_646 dL_law_647 dL_law_648 ?_
  refine l_calli hS hfr (r_runV (n := 2) (As := [.int (xs (i + 1)), .int (xs (i + 2))]) (rest := []) CF hK hH (c_X8_footprintSize l G σ R C n sq hc.1 (xs (i + 1)) (xs (i + 2))) gL_law_X8_footprintSize rfl rfl rfl rfl (by decide +kernel) ⟨⟨Nat.le_of_ble_eq_true rfl, Nat.le_of_ble_eq_true rfl⟩, Nat.le_of_ble_eq_true rfl, Nat.le_of_ble_eq_true rfl⟩ 20 rfl (Nat.le_of_ble_eq_true rfl) rfl rfl rfl hl.1 rfl (Nat.le_of_ble_eq_true rfl) dL_law_649) (fun r1 σ1 H locs hq1 hH hS => ?_)
  obtain ⟨he1, hF1⟩ := hq1
  have hm1 : IM σ1 R C n sq sp g cm u v w := (by rw [hF1]; exact hm)
  have hc1 : IC σ1 R C n sq sp g cm u v w := (by rw [hF1]; exact hc)
  refine lv_aload_n hx hb dL_law_652 rfl (lv_at hl 2 rfl) ?_
  refine l_rd hx hb hX hbl hL hS hl 1 (by decide) (by omega) dL_law_653 dL_law_654 dL_law_655 dL_law_656 dL_law_657 ?_
  refine l_rd hx hb hX hbl hL hS hl 2 (by decide) (by omega) dL_law_658 dL_law_659 dL_law_660 dL_law_661 dL_law_662 ?_
  refine l_calli hS hfr (r_runV (n := 2) (As := [.int (xs (i + 1)), .int (xs (i + 2))]) (rest := [.int r1]) CF hK hH (c_X9_footprintSize l G σ1 R C n sq hm1.1 (xs (i + 1)) (xs (i + 2))) gL_law_X9_footprintSize rfl rfl rfl rfl (by decide +kernel) ⟨⟨Nat.le_of_ble_eq_true rfl, Nat.le_of_ble_eq_true rfl⟩, Nat.le_of_ble_eq_true rfl, Nat.le_of_ble_eq_true rfl⟩ 29 rfl (Nat.le_of_ble_eq_true rfl) rfl rfl rfl hl.1 rfl (Nat.le_of_ble_eq_true rfl) dL_law_663) (fun r2 σ2 H locs hq2 hH hS => ?_)
  obtain ⟨he2, hF2⟩ := hq2
  have he : r1 = r2 := (by rw [he1, he2, hc.2.2.1, hc.2.2.2.1, hm1.2.2.1, hm1.2.2.2.1])
  have hI : INV σ2 := (by rw [hF2]; exact inv_same hc1 hm1 (lo_rf _))
  exact lv_icmp_eq (tgt := 1043) hx hb dL_law_666 (by decide) (fun _ => kk σ2 H locs ls hI hH hS hl) (fun h => absurd he h)
set_option maxRecDepth 100000 in
set_option maxHeartbeats 4000000 in
/-- coverage -/
theorem law_coverage {p : Program} {l : Launch} {e : Env} {s : State} {m : MethodId} {below : List Frame} {meth : Method} {c : Code} {b L : Nat} {xs : Nat → Int32} {G : Gm} {i : Nat} (hx : p.tables.exec = Jvm.exec) (hb : c.code = cL_law) (hX : va_X b L xs s s.heap) (hbl : b < s.heap.size) (hL : L ≤ 2560) (CF : CallFix p m c cL_law 4 s #[Value.ref b] wsL_law RL) (hK : KK G s) (hfr : ∀ q, fr G q → AL s q) (hi : i + 5 ≤ L) (kk : LPt p l e s m below meth c b G i 1043) : LPt p l e s m below meth c b G i 671 := by
  intro σ H locs ls hI hH hS hl
  obtain ⟨R, C, n, sq, sp, g, cm, u, v, w, hc, hm⟩ := hI
  refine lv_aload_n hx hb dL_law_671 rfl (lv_at hl 1 rfl) ?_
  refine l_rd hx hb hX hbl hL hS hl 1 (by decide) (by omega) dL_law_672 dL_law_673 dL_law_674 dL_law_675 dL_law_676 ?_
  refine l_rd hx hb hX hbl hL hS hl 2 (by decide) (by omega) dL_law_677 dL_law_678 dL_law_679 dL_law_680 dL_law_681 ?_
  refine l_calli hS hfr (r_runV (n := 2) (As := [.int (xs (i + 1)), .int (xs (i + 2))]) (rest := []) CF hK hH (c_X8_coverage l G σ R C n sq hc.1 (xs (i + 1)) (xs (i + 2))) gL_law_X8_coverage rfl rfl rfl rfl (by decide +kernel) ⟨⟨Nat.le_of_ble_eq_true rfl, Nat.le_of_ble_eq_true rfl⟩, Nat.le_of_ble_eq_true rfl, Nat.le_of_ble_eq_true rfl⟩ 20 rfl (Nat.le_of_ble_eq_true rfl) rfl rfl rfl hl.1 rfl (Nat.le_of_ble_eq_true rfl) dL_law_682) (fun r1 σ1 H locs hq1 hH hS => ?_)
  obtain ⟨he1, hF1⟩ := hq1
  have hm1 : IM σ1 R C n sq sp g cm u v w := (by rw [hF1]; exact hm)
  have hc1 : IC σ1 R C n sq sp g cm u v w := (by rw [hF1]; exact hc)
  refine lv_aload_n hx hb dL_law_685 rfl (lv_at hl 2 rfl) ?_
  refine l_rd hx hb hX hbl hL hS hl 1 (by decide) (by omega) dL_law_686 dL_law_687 dL_law_688 dL_law_689 dL_law_690 ?_
  refine l_rd hx hb hX hbl hL hS hl 2 (by decide) (by omega) dL_law_691 dL_law_692 dL_law_693 dL_law_694 dL_law_695 ?_
  refine l_calli hS hfr (r_runV (n := 2) (As := [.int (xs (i + 1)), .int (xs (i + 2))]) (rest := [.int r1]) CF hK hH (c_X9_coverage l G σ1 R C n sq hm1.1 (xs (i + 1)) (xs (i + 2))) gL_law_X9_coverage rfl rfl rfl rfl (by decide +kernel) ⟨⟨Nat.le_of_ble_eq_true rfl, Nat.le_of_ble_eq_true rfl⟩, Nat.le_of_ble_eq_true rfl, Nat.le_of_ble_eq_true rfl⟩ 29 rfl (Nat.le_of_ble_eq_true rfl) rfl rfl rfl hl.1 rfl (Nat.le_of_ble_eq_true rfl) dL_law_696) (fun r2 σ2 H locs hq2 hH hS => ?_)
  obtain ⟨he2, hF2⟩ := hq2
  have he : r1 = r2 := (by rw [he1, he2, hc.2.2.1, hc.2.2.2.1, hm1.2.2.1, hm1.2.2.2.1])
  have hI : INV σ2 := (by rw [hF2]; exact inv_same hc1 hm1 (lo_rf _))
  exact lv_icmp_eq (tgt := 1043) hx hb dL_law_699 (by decide) (fun _ => kk σ2 H locs ls hI hH hS hl) (fun h => absurd he h)
set_option maxRecDepth 100000 in
set_option maxHeartbeats 4000000 in
/-- gapCount -/
theorem law_gapCount {p : Program} {l : Launch} {e : Env} {s : State} {m : MethodId} {below : List Frame} {meth : Method} {c : Code} {b L : Nat} {xs : Nat → Int32} {G : Gm} {i : Nat} (hx : p.tables.exec = Jvm.exec) (hb : c.code = cL_law) (hX : va_X b L xs s s.heap) (hbl : b < s.heap.size) (hL : L ≤ 2560) (CF : CallFix p m c cL_law 4 s #[Value.ref b] wsL_law RL) (hK : KK G s) (hfr : ∀ q, fr G q → AL s q) (hi : i + 5 ≤ L) (kk : LPt p l e s m below meth c b G i 1043) : LPt p l e s m below meth c b G i 704 := by
  intro σ H locs ls hI hH hS hl
  obtain ⟨R, C, n, sq, sp, g, cm, u, v, w, hc, hm⟩ := hI
  refine lv_aload_n hx hb dL_law_704 rfl (lv_at hl 1 rfl) ?_
  refine l_rd hx hb hX hbl hL hS hl 1 (by decide) (by omega) dL_law_705 dL_law_706 dL_law_707 dL_law_708 dL_law_709 ?_
  refine l_calli hS hfr (r_runV (n := 1) (As := [.int (xs (i + 1))]) (rest := []) CF hK hH (c_X8_gapCount l G σ R C n sq hc.1 (xs (i + 1))) gL_law_X8_gapCount rfl rfl rfl rfl (by decide +kernel) ⟨⟨Nat.le_of_ble_eq_true rfl, Nat.le_of_ble_eq_true rfl⟩, Nat.le_of_ble_eq_true rfl, Nat.le_of_ble_eq_true rfl⟩ 20 rfl (Nat.le_of_ble_eq_true rfl) rfl rfl rfl hl.1 rfl (Nat.le_of_ble_eq_true rfl) dL_law_710) (fun r1 σ1 H locs hq1 hH hS => ?_)
  obtain ⟨he1, hF1⟩ := hq1
  have hm1 : IM σ1 R C n sq sp g cm u v w := (by rw [hF1]; exact hm)
  have hc1 : IC σ1 R C n sq sp g cm u v w := (by rw [hF1]; exact hc)
  refine lv_aload_n hx hb dL_law_713 rfl (lv_at hl 2 rfl) ?_
  refine l_rd hx hb hX hbl hL hS hl 1 (by decide) (by omega) dL_law_714 dL_law_715 dL_law_716 dL_law_717 dL_law_718 ?_
  refine l_calli hS hfr (r_runV (n := 1) (As := [.int (xs (i + 1))]) (rest := [.int r1]) CF hK hH (c_X9_gapCount l G σ1 R C n sq hm1.1 (xs (i + 1))) gL_law_X9_gapCount rfl rfl rfl rfl (by decide +kernel) ⟨⟨Nat.le_of_ble_eq_true rfl, Nat.le_of_ble_eq_true rfl⟩, Nat.le_of_ble_eq_true rfl, Nat.le_of_ble_eq_true rfl⟩ 29 rfl (Nat.le_of_ble_eq_true rfl) rfl rfl rfl hl.1 rfl (Nat.le_of_ble_eq_true rfl) dL_law_719) (fun r2 σ2 H locs hq2 hH hS => ?_)
  obtain ⟨he2, hF2⟩ := hq2
  have he : r1 = r2 := (by rw [he1, he2, hc.2.2.1, hc.2.2.2.1, hm1.2.2.1, hm1.2.2.2.1])
  have hI : INV σ2 := (by rw [hF2]; exact inv_same hc1 hm1 (lo_rf _))
  exact lv_icmp_eq (tgt := 1043) hx hb dL_law_722 (by decide) (fun _ => kk σ2 H locs ls hI hH hS hl) (fun h => absurd he h)
set_option maxRecDepth 100000 in
set_option maxHeartbeats 4000000 in
/-- gapAt -/
theorem law_gapAt {p : Program} {l : Launch} {e : Env} {s : State} {m : MethodId} {below : List Frame} {meth : Method} {c : Code} {b L : Nat} {xs : Nat → Int32} {G : Gm} {i : Nat} (hx : p.tables.exec = Jvm.exec) (hb : c.code = cL_law) (hX : va_X b L xs s s.heap) (hbl : b < s.heap.size) (hL : L ≤ 2560) (CF : CallFix p m c cL_law 4 s #[Value.ref b] wsL_law RL) (hK : KK G s) (hfr : ∀ q, fr G q → AL s q) (hi : i + 5 ≤ L) (kk : LPt p l e s m below meth c b G i 1043) : LPt p l e s m below meth c b G i 727 := by
  intro σ H locs ls hI hH hS hl
  obtain ⟨R, C, n, sq, sp, g, cm, u, v, w, hc, hm⟩ := hI
  refine lv_aload_n hx hb dL_law_727 rfl (lv_at hl 1 rfl) ?_
  refine l_rd hx hb hX hbl hL hS hl 1 (by decide) (by omega) dL_law_728 dL_law_729 dL_law_730 dL_law_731 dL_law_732 ?_
  refine l_rd hx hb hX hbl hL hS hl 2 (by decide) (by omega) dL_law_733 dL_law_734 dL_law_735 dL_law_736 dL_law_737 ?_
  refine l_calli hS hfr (r_runV (n := 2) (As := [.int (xs (i + 1)), .int (xs (i + 2))]) (rest := []) CF hK hH (c_X8_gapAt l G σ R C n sq hc.1 (xs (i + 1)) (xs (i + 2))) gL_law_X8_gapAt rfl rfl rfl rfl (by decide +kernel) ⟨⟨Nat.le_of_ble_eq_true rfl, Nat.le_of_ble_eq_true rfl⟩, Nat.le_of_ble_eq_true rfl, Nat.le_of_ble_eq_true rfl⟩ 20 rfl (Nat.le_of_ble_eq_true rfl) rfl rfl rfl hl.1 rfl (Nat.le_of_ble_eq_true rfl) dL_law_738) (fun r1 σ1 H locs hq1 hH hS => ?_)
  obtain ⟨he1, hF1⟩ := hq1
  have hm1 : IM σ1 R C n sq sp g cm u v w := (by rw [hF1]; exact hm)
  have hc1 : IC σ1 R C n sq sp g cm u v w := (by rw [hF1]; exact hc)
  refine lv_aload_n hx hb dL_law_741 rfl (lv_at hl 2 rfl) ?_
  refine l_rd hx hb hX hbl hL hS hl 1 (by decide) (by omega) dL_law_742 dL_law_743 dL_law_744 dL_law_745 dL_law_746 ?_
  refine l_rd hx hb hX hbl hL hS hl 2 (by decide) (by omega) dL_law_747 dL_law_748 dL_law_749 dL_law_750 dL_law_751 ?_
  refine l_calli hS hfr (r_runV (n := 2) (As := [.int (xs (i + 1)), .int (xs (i + 2))]) (rest := [.int r1]) CF hK hH (c_X9_gapAt l G σ1 R C n sq hm1.1 (xs (i + 1)) (xs (i + 2))) gL_law_X9_gapAt rfl rfl rfl rfl (by decide +kernel) ⟨⟨Nat.le_of_ble_eq_true rfl, Nat.le_of_ble_eq_true rfl⟩, Nat.le_of_ble_eq_true rfl, Nat.le_of_ble_eq_true rfl⟩ 29 rfl (Nat.le_of_ble_eq_true rfl) rfl rfl rfl hl.1 rfl (Nat.le_of_ble_eq_true rfl) dL_law_752) (fun r2 σ2 H locs hq2 hH hS => ?_)
  obtain ⟨he2, hF2⟩ := hq2
  have he : r1 = r2 := (by rw [he1, he2, hc.2.2.1, hc.2.2.2.1, hm1.2.2.1, hm1.2.2.2.1])
  have hI : INV σ2 := (by rw [hF2]; exact inv_same hc1 hm1 (lo_rf _))
  exact lv_icmp_eq (tgt := 1043) hx hb dL_law_755 (by decide) (fun _ => kk σ2 H locs ls hI hH hS hl) (fun h => absurd he h)
set_option maxRecDepth 100000 in
set_option maxHeartbeats 4000000 in
/-- forwardOverlap -/
theorem law_forwardOverlap {p : Program} {l : Launch} {e : Env} {s : State} {m : MethodId} {below : List Frame} {meth : Method} {c : Code} {b L : Nat} {xs : Nat → Int32} {G : Gm} {i : Nat} (hx : p.tables.exec = Jvm.exec) (hb : c.code = cL_law) (hX : va_X b L xs s s.heap) (hbl : b < s.heap.size) (hL : L ≤ 2560) (CF : CallFix p m c cL_law 4 s #[Value.ref b] wsL_law RL) (hK : KK G s) (hfr : ∀ q, fr G q → AL s q) (hi : i + 5 ≤ L) (kk : LPt p l e s m below meth c b G i 1043) : LPt p l e s m below meth c b G i 760 := by
  intro σ H locs ls hI hH hS hl
  obtain ⟨R, C, n, sq, sp, g, cm, u, v, w, hc, hm⟩ := hI
  refine lv_aload_n hx hb dL_law_760 rfl (lv_at hl 1 rfl) ?_
  refine l_rd hx hb hX hbl hL hS hl 1 (by decide) (by omega) dL_law_761 dL_law_762 dL_law_763 dL_law_764 dL_law_765 ?_
  refine l_rd hx hb hX hbl hL hS hl 2 (by decide) (by omega) dL_law_766 dL_law_767 dL_law_768 dL_law_769 dL_law_770 ?_
  refine l_calli hS hfr (r_runV (n := 2) (As := [.int (xs (i + 1)), .int (xs (i + 2))]) (rest := []) CF hK hH (c_X8_forwardOverlap l G σ R C n sq hc.1 (xs (i + 1)) (xs (i + 2))) gL_law_X8_forwardOverlap rfl rfl rfl rfl (by decide +kernel) ⟨⟨Nat.le_of_ble_eq_true rfl, Nat.le_of_ble_eq_true rfl⟩, Nat.le_of_ble_eq_true rfl, Nat.le_of_ble_eq_true rfl⟩ 20 rfl (Nat.le_of_ble_eq_true rfl) rfl rfl rfl hl.1 rfl (Nat.le_of_ble_eq_true rfl) dL_law_771) (fun r1 σ1 H locs hq1 hH hS => ?_)
  obtain ⟨he1, o1, o2, o3, ho⟩ := hq1
  have hm1 := IM_hi hm (hi_ov ho)
  have hc1 := ic_ov hc ho
  refine lv_aload_n hx hb dL_law_774 rfl (lv_at hl 2 rfl) ?_
  refine l_rd hx hb hX hbl hL hS hl 1 (by decide) (by omega) dL_law_775 dL_law_776 dL_law_777 dL_law_778 dL_law_779 ?_
  refine l_rd hx hb hX hbl hL hS hl 2 (by decide) (by omega) dL_law_780 dL_law_781 dL_law_782 dL_law_783 dL_law_784 ?_
  refine l_calli hS hfr (r_runV (n := 2) (As := [.int (xs (i + 1)), .int (xs (i + 2))]) (rest := [.int r1]) CF hK hH (c_X9_forwardOverlap l G σ1 R C n sq hm1.1 (xs (i + 1)) (xs (i + 2))) gL_law_X9_forwardOverlap rfl rfl rfl rfl (by decide +kernel) ⟨⟨Nat.le_of_ble_eq_true rfl, Nat.le_of_ble_eq_true rfl⟩, Nat.le_of_ble_eq_true rfl, Nat.le_of_ble_eq_true rfl⟩ 29 rfl (Nat.le_of_ble_eq_true rfl) rfl rfl rfl hl.1 rfl (Nat.le_of_ble_eq_true rfl) dL_law_785) (fun r2 σ2 H locs hq2 hH hS => ?_)
  obtain ⟨he2, hF2⟩ := hq2
  have he : r1 = r2 := (by rw [he1, he2, hc.2.2.1, hc.2.2.2.1, hm1.2.2.1, hm1.2.2.2.1])
  have hI : INV σ2 := (by rw [hF2]; exact inv_same hc1 hm1 (lo_rf _))
  exact lv_icmp_eq (tgt := 1043) hx hb dL_law_788 (by decide) (fun _ => kk σ2 H locs ls hI hH hS hl) (fun h => absurd he h)
set_option maxRecDepth 100000 in
set_option maxHeartbeats 4000000 in
/-- sideOverlap -/
theorem law_sideOverlap {p : Program} {l : Launch} {e : Env} {s : State} {m : MethodId} {below : List Frame} {meth : Method} {c : Code} {b L : Nat} {xs : Nat → Int32} {G : Gm} {i : Nat} (hx : p.tables.exec = Jvm.exec) (hb : c.code = cL_law) (hX : va_X b L xs s s.heap) (hbl : b < s.heap.size) (hL : L ≤ 2560) (CF : CallFix p m c cL_law 4 s #[Value.ref b] wsL_law RL) (hK : KK G s) (hfr : ∀ q, fr G q → AL s q) (hi : i + 5 ≤ L) (kk : LPt p l e s m below meth c b G i 1043) : LPt p l e s m below meth c b G i 793 := by
  intro σ H locs ls hI hH hS hl
  obtain ⟨R, C, n, sq, sp, g, cm, u, v, w, hc, hm⟩ := hI
  refine lv_aload_n hx hb dL_law_793 rfl (lv_at hl 1 rfl) ?_
  refine l_rd hx hb hX hbl hL hS hl 1 (by decide) (by omega) dL_law_794 dL_law_795 dL_law_796 dL_law_797 dL_law_798 ?_
  refine l_rd hx hb hX hbl hL hS hl 2 (by decide) (by omega) dL_law_799 dL_law_800 dL_law_801 dL_law_802 dL_law_803 ?_
  refine l_calli hS hfr (r_runV (n := 2) (As := [.int (xs (i + 1)), .int (xs (i + 2))]) (rest := []) CF hK hH (c_X8_sideOverlap l G σ R C n sq hc.1 (xs (i + 1)) (xs (i + 2))) gL_law_X8_sideOverlap rfl rfl rfl rfl (by decide +kernel) ⟨⟨Nat.le_of_ble_eq_true rfl, Nat.le_of_ble_eq_true rfl⟩, Nat.le_of_ble_eq_true rfl, Nat.le_of_ble_eq_true rfl⟩ 20 rfl (Nat.le_of_ble_eq_true rfl) rfl rfl rfl hl.1 rfl (Nat.le_of_ble_eq_true rfl) dL_law_804) (fun r1 σ1 H locs hq1 hH hS => ?_)
  obtain ⟨he1, o1, o2, o3, ho⟩ := hq1
  have hm1 := IM_hi hm (hi_ov ho)
  have hc1 := ic_ov hc ho
  refine lv_aload_n hx hb dL_law_807 rfl (lv_at hl 2 rfl) ?_
  refine l_rd hx hb hX hbl hL hS hl 1 (by decide) (by omega) dL_law_808 dL_law_809 dL_law_810 dL_law_811 dL_law_812 ?_
  refine l_rd hx hb hX hbl hL hS hl 2 (by decide) (by omega) dL_law_813 dL_law_814 dL_law_815 dL_law_816 dL_law_817 ?_
  refine l_calli hS hfr (r_runV (n := 2) (As := [.int (xs (i + 1)), .int (xs (i + 2))]) (rest := [.int r1]) CF hK hH (c_X9_sideOverlap l G σ1 R C n sq hm1.1 (xs (i + 1)) (xs (i + 2))) gL_law_X9_sideOverlap rfl rfl rfl rfl (by decide +kernel) ⟨⟨Nat.le_of_ble_eq_true rfl, Nat.le_of_ble_eq_true rfl⟩, Nat.le_of_ble_eq_true rfl, Nat.le_of_ble_eq_true rfl⟩ 29 rfl (Nat.le_of_ble_eq_true rfl) rfl rfl rfl hl.1 rfl (Nat.le_of_ble_eq_true rfl) dL_law_818) (fun r2 σ2 H locs hq2 hH hS => ?_)
  obtain ⟨he2, hF2⟩ := hq2
  have he : r1 = r2 := (by rw [he1, he2, hc.2.2.1, hc.2.2.2.1, hm1.2.2.1, hm1.2.2.2.1])
  have hI : INV σ2 := (by rw [hF2]; exact inv_same hc1 hm1 (lo_rf _))
  exact lv_icmp_eq (tgt := 1043) hx hb dL_law_821 (by decide) (fun _ => kk σ2 H locs ls hI hH hS hl) (fun h => absurd he h)
set_option maxRecDepth 100000 in
set_option maxHeartbeats 4000000 in
/-- planPhotos -/
theorem law_planPhotos {p : Program} {l : Launch} {e : Env} {s : State} {m : MethodId} {below : List Frame} {meth : Method} {c : Code} {b L : Nat} {xs : Nat → Int32} {G : Gm} {i : Nat} (hx : p.tables.exec = Jvm.exec) (hb : c.code = cL_law) (hX : va_X b L xs s s.heap) (hbl : b < s.heap.size) (hL : L ≤ 2560) (CF : CallFix p m c cL_law 4 s #[Value.ref b] wsL_law RL) (hK : KK G s) (hfr : ∀ q, fr G q → AL s q) (hi : i + 5 ≤ L) (kk : LPt p l e s m below meth c b G i 1043) : LPt p l e s m below meth c b G i 826 := by
  intro σ H locs ls hI hH hS hl
  obtain ⟨R, C, n, sq, sp, g, cm, u, v, w, hc, hm⟩ := hI
  refine lv_aload_n hx hb dL_law_826 rfl (lv_at hl 1 rfl) ?_
  refine l_rd hx hb hX hbl hL hS hl 1 (by decide) (by omega) dL_law_827 dL_law_828 dL_law_829 dL_law_830 dL_law_831 ?_
  refine l_calli hS hfr (r_runV (n := 1) (As := [.int (xs (i + 1))]) (rest := []) CF hK hH (c_X8_planPhotos l G σ R C n sq hc.1 (xs (i + 1))) gL_law_X8_planPhotos rfl rfl rfl rfl (by decide +kernel) ⟨⟨Nat.le_of_ble_eq_true rfl, Nat.le_of_ble_eq_true rfl⟩, Nat.le_of_ble_eq_true rfl, Nat.le_of_ble_eq_true rfl⟩ 20 rfl (Nat.le_of_ble_eq_true rfl) rfl rfl rfl hl.1 rfl (Nat.le_of_ble_eq_true rfl) dL_law_832) (fun r1 σ1 H locs hq1 hH hS => ?_)
  obtain ⟨he1, hF1⟩ := hq1
  have hm1 := IM_hi hm (hi_P hF1)
  have hc1 := ic_P hc hF1
  refine lv_aload_n hx hb dL_law_835 rfl (lv_at hl 2 rfl) ?_
  refine l_rd hx hb hX hbl hL hS hl 1 (by decide) (by omega) dL_law_836 dL_law_837 dL_law_838 dL_law_839 dL_law_840 ?_
  refine l_calli hS hfr (r_runV (n := 1) (As := [.int (xs (i + 1))]) (rest := [.int r1]) CF hK hH (c_X9_planPhotos l G σ1 R C hm1.1.1 hm1.1.2.1 hm1.1.2.2.1 hm1.1.2.2.2.1 hm1.1.2.2.2.2.1 hm1.1.2.2.2.2.2.1 (xs (i + 1))) gL_law_X9_planPhotos rfl rfl rfl rfl (by decide +kernel) ⟨⟨Nat.le_of_ble_eq_true rfl, Nat.le_of_ble_eq_true rfl⟩, Nat.le_of_ble_eq_true rfl, Nat.le_of_ble_eq_true rfl⟩ 29 rfl (Nat.le_of_ble_eq_true rfl) rfl rfl rfl hl.1 rfl (Nat.le_of_ble_eq_true rfl) dL_law_841) (fun r2 σ2 H locs hq2 hH hS => ?_)
  obtain ⟨he2, hF2⟩ := hq2
  have he : r1 = r2 := (by rw [he1, he2, hc.2.2.1, hc.2.2.2.1, hm1.2.2.1, hm1.2.2.2.1])
  have hI : INV σ2 := inv_same hc1 (im_M hm1 hF2) (lo_M hF2)
  exact lv_icmp_eq (tgt := 1043) hx hb dL_law_844 (by decide) (fun _ => kk σ2 H locs ls hI hH hS hl) (fun h => absurd he h)
set_option maxRecDepth 100000 in
set_option maxHeartbeats 4000000 in
/-- planRowSpacing -/
theorem law_planRowSpacing {p : Program} {l : Launch} {e : Env} {s : State} {m : MethodId} {below : List Frame} {meth : Method} {c : Code} {b L : Nat} {xs : Nat → Int32} {G : Gm} {i : Nat} (hx : p.tables.exec = Jvm.exec) (hb : c.code = cL_law) (hX : va_X b L xs s s.heap) (hbl : b < s.heap.size) (hL : L ≤ 2560) (CF : CallFix p m c cL_law 4 s #[Value.ref b] wsL_law RL) (hK : KK G s) (hfr : ∀ q, fr G q → AL s q) (hi : i + 5 ≤ L) (kk : LPt p l e s m below meth c b G i 1043) : LPt p l e s m below meth c b G i 849 := by
  intro σ H locs ls hI hH hS hl
  obtain ⟨R, C, n, sq, sp, g, cm, u, v, w, hc, hm⟩ := hI
  refine lv_aload_n hx hb dL_law_849 rfl (lv_at hl 1 rfl) ?_
  refine l_rd hx hb hX hbl hL hS hl 1 (by decide) (by omega) dL_law_850 dL_law_851 dL_law_852 dL_law_853 dL_law_854 ?_
  refine l_calli hS hfr (r_runV (n := 1) (As := [.int (xs (i + 1))]) (rest := []) CF hK hH (c_X8_planRowSpacing l G σ R C n sq hc.1 (xs (i + 1))) gL_law_X8_planRowSpacing rfl rfl rfl rfl (by decide +kernel) ⟨⟨Nat.le_of_ble_eq_true rfl, Nat.le_of_ble_eq_true rfl⟩, Nat.le_of_ble_eq_true rfl, Nat.le_of_ble_eq_true rfl⟩ 20 rfl (Nat.le_of_ble_eq_true rfl) rfl rfl rfl hl.1 rfl (Nat.le_of_ble_eq_true rfl) dL_law_855) (fun r1 σ1 H locs hq1 hH hS => ?_)
  obtain ⟨he1, hF1⟩ := hq1
  have hm1 := IM_hi hm (hi_P hF1)
  have hc1 := ic_P hc hF1
  refine lv_aload_n hx hb dL_law_858 rfl (lv_at hl 2 rfl) ?_
  refine l_rd hx hb hX hbl hL hS hl 1 (by decide) (by omega) dL_law_859 dL_law_860 dL_law_861 dL_law_862 dL_law_863 ?_
  refine l_calli hS hfr (r_runV (n := 1) (As := [.int (xs (i + 1))]) (rest := [.int r1]) CF hK hH (c_X9_planRowSpacing l G σ1 R C hm1.1.1 hm1.1.2.1 hm1.1.2.2.1 hm1.1.2.2.2.1 hm1.1.2.2.2.2.1 hm1.1.2.2.2.2.2.1 (xs (i + 1))) gL_law_X9_planRowSpacing rfl rfl rfl rfl (by decide +kernel) ⟨⟨Nat.le_of_ble_eq_true rfl, Nat.le_of_ble_eq_true rfl⟩, Nat.le_of_ble_eq_true rfl, Nat.le_of_ble_eq_true rfl⟩ 29 rfl (Nat.le_of_ble_eq_true rfl) rfl rfl rfl hl.1 rfl (Nat.le_of_ble_eq_true rfl) dL_law_864) (fun r2 σ2 H locs hq2 hH hS => ?_)
  obtain ⟨he2, hF2⟩ := hq2
  have he : r1 = r2 := (by rw [he1, he2, hc.2.2.1, hc.2.2.2.1, hm1.2.2.1, hm1.2.2.2.1])
  have hI : INV σ2 := inv_same hc1 (im_M hm1 hF2) (lo_M hF2)
  exact lv_icmp_eq (tgt := 1043) hx hb dL_law_867 (by decide) (fun _ => kk σ2 H locs ls hI hH hS hl) (fun h => absurd he h)
set_option maxRecDepth 100000 in
set_option maxHeartbeats 4000000 in
/-- planPhotoSpacing -/
theorem law_planPhotoSpacing {p : Program} {l : Launch} {e : Env} {s : State} {m : MethodId} {below : List Frame} {meth : Method} {c : Code} {b L : Nat} {xs : Nat → Int32} {G : Gm} {i : Nat} (hx : p.tables.exec = Jvm.exec) (hb : c.code = cL_law) (hX : va_X b L xs s s.heap) (hbl : b < s.heap.size) (hL : L ≤ 2560) (CF : CallFix p m c cL_law 4 s #[Value.ref b] wsL_law RL) (hK : KK G s) (hfr : ∀ q, fr G q → AL s q) (hi : i + 5 ≤ L) (kk : LPt p l e s m below meth c b G i 1043) : LPt p l e s m below meth c b G i 872 := by
  intro σ H locs ls hI hH hS hl
  obtain ⟨R, C, n, sq, sp, g, cm, u, v, w, hc, hm⟩ := hI
  refine lv_aload_n hx hb dL_law_872 rfl (lv_at hl 1 rfl) ?_
  refine l_rd hx hb hX hbl hL hS hl 1 (by decide) (by omega) dL_law_873 dL_law_874 dL_law_875 dL_law_876 dL_law_877 ?_
  refine l_calli hS hfr (r_runV (n := 1) (As := [.int (xs (i + 1))]) (rest := []) CF hK hH (c_X8_planPhotoSpacing l G σ R C n sq hc.1 (xs (i + 1))) gL_law_X8_planPhotoSpacing rfl rfl rfl rfl (by decide +kernel) ⟨⟨Nat.le_of_ble_eq_true rfl, Nat.le_of_ble_eq_true rfl⟩, Nat.le_of_ble_eq_true rfl, Nat.le_of_ble_eq_true rfl⟩ 20 rfl (Nat.le_of_ble_eq_true rfl) rfl rfl rfl hl.1 rfl (Nat.le_of_ble_eq_true rfl) dL_law_878) (fun r1 σ1 H locs hq1 hH hS => ?_)
  obtain ⟨he1, hF1⟩ := hq1
  have hm1 := IM_hi hm (hi_P hF1)
  have hc1 := ic_P hc hF1
  refine lv_aload_n hx hb dL_law_881 rfl (lv_at hl 2 rfl) ?_
  refine l_rd hx hb hX hbl hL hS hl 1 (by decide) (by omega) dL_law_882 dL_law_883 dL_law_884 dL_law_885 dL_law_886 ?_
  refine l_calli hS hfr (r_runV (n := 1) (As := [.int (xs (i + 1))]) (rest := [.int r1]) CF hK hH (c_X9_planPhotoSpacing l G σ1 R C hm1.1.1 hm1.1.2.1 hm1.1.2.2.1 hm1.1.2.2.2.1 hm1.1.2.2.2.2.1 hm1.1.2.2.2.2.2.1 (xs (i + 1))) gL_law_X9_planPhotoSpacing rfl rfl rfl rfl (by decide +kernel) ⟨⟨Nat.le_of_ble_eq_true rfl, Nat.le_of_ble_eq_true rfl⟩, Nat.le_of_ble_eq_true rfl, Nat.le_of_ble_eq_true rfl⟩ 29 rfl (Nat.le_of_ble_eq_true rfl) rfl rfl rfl hl.1 rfl (Nat.le_of_ble_eq_true rfl) dL_law_887) (fun r2 σ2 H locs hq2 hH hS => ?_)
  obtain ⟨he2, hF2⟩ := hq2
  have he : r1 = r2 := (by rw [he1, he2, hc.2.2.1, hc.2.2.2.1, hm1.2.2.1, hm1.2.2.2.1])
  have hI : INV σ2 := inv_same hc1 (im_M hm1 hF2) (lo_M hF2)
  exact lv_icmp_eq (tgt := 1043) hx hb dL_law_890 (by decide) (fun _ => kk σ2 H locs ls hI hH hS hl) (fun h => absurd he h)
set_option maxRecDepth 100000 in
set_option maxHeartbeats 4000000 in
/-- applyPlan -/
theorem law_applyPlan {p : Program} {l : Launch} {e : Env} {s : State} {m : MethodId} {below : List Frame} {meth : Method} {c : Code} {b L : Nat} {xs : Nat → Int32} {G : Gm} {i : Nat} (hx : p.tables.exec = Jvm.exec) (hb : c.code = cL_law) (hX : va_X b L xs s s.heap) (hbl : b < s.heap.size) (hL : L ≤ 2560) (CF : CallFix p m c cL_law 4 s #[Value.ref b] wsL_law RL) (hK : KK G s) (hfr : ∀ q, fr G q → AL s q) (hi : i + 5 ≤ L) (kk : LPt p l e s m below meth c b G i 1043) : LPt p l e s m below meth c b G i 895 := by
  intro σ H locs ls hI hH hS hl
  obtain ⟨R, C, n, sq, sp, g, cm, u, v, w, hc, hm⟩ := hI
  refine lv_aload_n hx hb dL_law_895 rfl (lv_at hl 1 rfl) ?_
  refine l_rd hx hb hX hbl hL hS hl 1 (by decide) (by omega) dL_law_896 dL_law_897 dL_law_898 dL_law_899 dL_law_900 ?_
  refine l_calli hS hfr (r_runV (n := 1) (As := [.int (xs (i + 1))]) (rest := []) CF hK hH (c_X8_applyPlan l G σ R C n sq hc.1 (xs (i + 1))) gL_law_X8_applyPlan rfl rfl rfl rfl (by decide +kernel) ⟨⟨Nat.le_of_ble_eq_true rfl, Nat.le_of_ble_eq_true rfl⟩, Nat.le_of_ble_eq_true rfl, Nat.le_of_ble_eq_true rfl⟩ 20 rfl (Nat.le_of_ble_eq_true rfl) rfl rfl rfl hl.1 rfl (Nat.le_of_ble_eq_true rfl) dL_law_901) (fun r1 σ1 H locs hq1 hH hS => ?_)
  have hm1 := IM_hi hm (hi_applyPlan hc hq1)
  refine lv_aload_n hx hb dL_law_904 rfl (lv_at hl 2 rfl) ?_
  refine l_rd hx hb hX hbl hL hS hl 1 (by decide) (by omega) dL_law_905 dL_law_906 dL_law_907 dL_law_908 dL_law_909 ?_
  refine l_calli hS hfr (r_runV (n := 1) (As := [.int (xs (i + 1))]) (rest := [.int r1]) CF hK hH (c_X9_applyPlan l G σ1 R C hm1.1.1 hm1.1.2.1 hm1.1.2.2.1 hm1.1.2.2.2.1 hm1.1.2.2.2.2.1 hm1.1.2.2.2.2.2.1 (xs (i + 1))) gL_law_X9_applyPlan rfl rfl rfl rfl (by decide +kernel) ⟨⟨Nat.le_of_ble_eq_true rfl, Nat.le_of_ble_eq_true rfl⟩, Nat.le_of_ble_eq_true rfl, Nat.le_of_ble_eq_true rfl⟩ 29 rfl (Nat.le_of_ble_eq_true rfl) rfl rfl rfl hl.1 rfl (Nat.le_of_ble_eq_true rfl) dL_law_910) (fun r2 σ2 H locs hq2 hH hS => ?_)
  obtain ⟨he, hI⟩ := pr_applyPlan hc hm hq1 hq2
  exact lv_icmp_eq (tgt := 1043) hx hb dL_law_913 (by decide) (fun _ => kk σ2 H locs ls hI hH hS hl) (fun h => absurd he h)
set_option maxRecDepth 100000 in
set_option maxHeartbeats 4000000 in
/-- stripTime -/
theorem law_stripTime {p : Program} {l : Launch} {e : Env} {s : State} {m : MethodId} {below : List Frame} {meth : Method} {c : Code} {b L : Nat} {xs : Nat → Int32} {G : Gm} {i : Nat} (hx : p.tables.exec = Jvm.exec) (hb : c.code = cL_law) (hX : va_X b L xs s s.heap) (hbl : b < s.heap.size) (hL : L ≤ 2560) (CF : CallFix p m c cL_law 4 s #[Value.ref b] wsL_law RL) (hK : KK G s) (hfr : ∀ q, fr G q → AL s q) (hi : i + 5 ≤ L) (kk : LPt p l e s m below meth c b G i 1043) : LPt p l e s m below meth c b G i 918 := by
  intro σ H locs ls hI hH hS hl
  obtain ⟨R, C, n, sq, sp, g, cm, u, v, w, hc, hm⟩ := hI
  refine lv_aload_n hx hb dL_law_918 rfl (lv_at hl 1 rfl) ?_
  refine l_rd hx hb hX hbl hL hS hl 1 (by decide) (by omega) dL_law_919 dL_law_920 dL_law_921 dL_law_922 dL_law_923 ?_
  refine l_rd hx hb hX hbl hL hS hl 2 (by decide) (by omega) dL_law_924 dL_law_925 dL_law_926 dL_law_927 dL_law_928 ?_
  refine l_ne0 hx hb dL_law_929 dL_law_932 dL_law_933 dL_law_936 ?_
  refine l_calli hS hfr (r_runV (n := 2) (As := [.int (xs (i + 1)), .int (b2i (decide ((xs (i + 2)) ≠ 0)))]) (rest := []) CF hK hH (c_X8_stripTime l G σ R C n sq hc.1 sp hc.2.1 (xs (i + 1)) (decide ((xs (i + 2)) ≠ 0))) gL_law_X8_stripTime rfl rfl rfl rfl (by decide +kernel) ⟨⟨Nat.le_of_ble_eq_true rfl, Nat.le_of_ble_eq_true rfl⟩, Nat.le_of_ble_eq_true rfl, Nat.le_of_ble_eq_true rfl⟩ 20 rfl (Nat.le_of_ble_eq_true rfl) rfl rfl rfl hl.1 rfl (Nat.le_of_ble_eq_true rfl) dL_law_937) (fun r1 σ1 H locs hq1 hH hS => ?_)
  obtain ⟨he1, hF1⟩ := hq1
  have hm1 : IM σ1 R C n sq sp g cm u v w := (by rw [hF1]; exact hm)
  have hc1 : IC σ1 R C n sq sp g cm u v w := (by rw [hF1]; exact hc)
  refine lv_aload_n hx hb dL_law_940 rfl (lv_at hl 2 rfl) ?_
  refine l_rd hx hb hX hbl hL hS hl 1 (by decide) (by omega) dL_law_941 dL_law_942 dL_law_943 dL_law_944 dL_law_945 ?_
  refine l_rd hx hb hX hbl hL hS hl 2 (by decide) (by omega) dL_law_946 dL_law_947 dL_law_948 dL_law_949 dL_law_950 ?_
  refine l_ne0 hx hb dL_law_951 dL_law_954 dL_law_955 dL_law_958 ?_
  refine l_calli hS hfr (r_runV (n := 2) (As := [.int (xs (i + 1)), .int (b2i (decide ((xs (i + 2)) ≠ 0)))]) (rest := [.int r1]) CF hK hH (c_X9_stripTime l G σ1 n sq hm1.1.2.2.2.2.2.2 sp hm1.2.1 (xs (i + 1)) (decide ((xs (i + 2)) ≠ 0))) gL_law_X9_stripTime rfl rfl rfl rfl (by decide +kernel) ⟨⟨Nat.le_of_ble_eq_true rfl, Nat.le_of_ble_eq_true rfl⟩, Nat.le_of_ble_eq_true rfl, Nat.le_of_ble_eq_true rfl⟩ 29 rfl (Nat.le_of_ble_eq_true rfl) rfl rfl rfl hl.1 rfl (Nat.le_of_ble_eq_true rfl) dL_law_959) (fun r2 σ2 H locs hq2 hH hS => ?_)
  obtain ⟨he2, hF2⟩ := hq2
  have he : r1 = r2 := he1.trans he2.symm
  have hI : INV σ2 := (by rw [hF2]; exact inv_same hc1 hm1 (lo_rf _))
  exact lv_icmp_eq (tgt := 1043) hx hb dL_law_962 (by decide) (fun _ => kk σ2 H locs ls hI hH hS hl) (fun h => absurd he h)
set_option maxRecDepth 100000 in
set_option maxHeartbeats 4000000 in
/-- routeTime -/
theorem law_routeTime {p : Program} {l : Launch} {e : Env} {s : State} {m : MethodId} {below : List Frame} {meth : Method} {c : Code} {b L : Nat} {xs : Nat → Int32} {G : Gm} {i : Nat} (hx : p.tables.exec = Jvm.exec) (hb : c.code = cL_law) (hX : va_X b L xs s s.heap) (hbl : b < s.heap.size) (hL : L ≤ 2560) (CF : CallFix p m c cL_law 4 s #[Value.ref b] wsL_law RL) (hK : KK G s) (hfr : ∀ q, fr G q → AL s q) (hi : i + 5 ≤ L) (kk : LPt p l e s m below meth c b G i 1043) : LPt p l e s m below meth c b G i 967 := by
  intro σ H locs ls hI hH hS hl
  obtain ⟨R, C, n, sq, sp, g, cm, u, v, w, hc, hm⟩ := hI
  refine lv_aload_n hx hb dL_law_967 rfl (lv_at hl 1 rfl) ?_
  refine l_rd hx hb hX hbl hL hS hl 1 (by decide) (by omega) dL_law_968 dL_law_969 dL_law_970 dL_law_971 dL_law_972 ?_
  refine l_rd hx hb hX hbl hL hS hl 2 (by decide) (by omega) dL_law_973 dL_law_974 dL_law_975 dL_law_976 dL_law_977 ?_
  refine l_calli hS hfr (r_runV (n := 2) (As := [.int (xs (i + 1)), .int (xs (i + 2))]) (rest := []) CF hK hH (c_X8_routeTime l G σ R C n sq hc.1 sp hc.2.1 (xs (i + 1)) (xs (i + 2))) gL_law_X8_routeTime rfl rfl rfl rfl (by decide +kernel) ⟨⟨Nat.le_of_ble_eq_true rfl, Nat.le_of_ble_eq_true rfl⟩, Nat.le_of_ble_eq_true rfl, Nat.le_of_ble_eq_true rfl⟩ 20 rfl (Nat.le_of_ble_eq_true rfl) rfl rfl rfl hl.1 rfl (Nat.le_of_ble_eq_true rfl) dL_law_978) (fun r1 σ1 H locs hq1 hH hS => ?_)
  obtain ⟨he1, hF1⟩ := hq1
  have hm1 := IM_hi hm (hi_R hF1)
  have hc1 := ic_R hc hF1
  refine lv_aload_n hx hb dL_law_981 rfl (lv_at hl 2 rfl) ?_
  refine l_rd hx hb hX hbl hL hS hl 1 (by decide) (by omega) dL_law_982 dL_law_983 dL_law_984 dL_law_985 dL_law_986 ?_
  refine l_rd hx hb hX hbl hL hS hl 2 (by decide) (by omega) dL_law_987 dL_law_988 dL_law_989 dL_law_990 dL_law_991 ?_
  refine l_calli hS hfr (r_runV (n := 2) (As := [.int (xs (i + 1)), .int (xs (i + 2))]) (rest := [.int r1]) CF hK hH (c_X9_routeTime l G σ1 R C n sq hm1.1 sp hm1.2.1 (xs (i + 1)) (xs (i + 2))) gL_law_X9_routeTime rfl rfl rfl rfl (by decide +kernel) ⟨⟨Nat.le_of_ble_eq_true rfl, Nat.le_of_ble_eq_true rfl⟩, Nat.le_of_ble_eq_true rfl, Nat.le_of_ble_eq_true rfl⟩ 29 rfl (Nat.le_of_ble_eq_true rfl) rfl rfl rfl hl.1 rfl (Nat.le_of_ble_eq_true rfl) dL_law_992) (fun r2 σ2 H locs hq2 hH hS => ?_)
  obtain ⟨he2, hF2⟩ := hq2
  have he : r1 = r2 := he1.trans he2.symm
  have hI : INV σ2 := inv_same hc1 (im_N hm1 hF2) (lo_N hF2)
  exact lv_icmp_eq (tgt := 1043) hx hb dL_law_995 (by decide) (fun _ => kk σ2 H locs ls hI hH hS hl) (fun h => absurd he h)
set_option maxRecDepth 100000 in
set_option maxHeartbeats 4000000 in
/-- routeStep -/
theorem law_routeStep {p : Program} {l : Launch} {e : Env} {s : State} {m : MethodId} {below : List Frame} {meth : Method} {c : Code} {b L : Nat} {xs : Nat → Int32} {G : Gm} {i : Nat} (hx : p.tables.exec = Jvm.exec) (hb : c.code = cL_law) (hX : va_X b L xs s s.heap) (hbl : b < s.heap.size) (hL : L ≤ 2560) (CF : CallFix p m c cL_law 4 s #[Value.ref b] wsL_law RL) (hK : KK G s) (hfr : ∀ q, fr G q → AL s q) (hi : i + 5 ≤ L) (kk : LPt p l e s m below meth c b G i 1043) : LPt p l e s m below meth c b G i 1000 := by
  intro σ H locs ls hI hH hS hl
  obtain ⟨R, C, n, sq, sp, g, cm, u, v, w, hc, hm⟩ := hI
  refine lv_aload_n hx hb dL_law_1000 rfl (lv_at hl 1 rfl) ?_
  refine l_rd hx hb hX hbl hL hS hl 1 (by decide) (by omega) dL_law_1001 dL_law_1002 dL_law_1003 dL_law_1004 dL_law_1005 ?_
  refine l_rd hx hb hX hbl hL hS hl 2 (by decide) (by omega) dL_law_1006 dL_law_1007 dL_law_1008 dL_law_1009 dL_law_1010 ?_
  refine l_rd hx hb hX hbl hL hS hl 3 (by decide) (by omega) dL_law_1011 dL_law_1012 dL_law_1013 dL_law_1014 dL_law_1015 ?_
  refine l_calli hS hfr (r_runV (n := 3) (As := [.int (xs (i + 1)), .int (xs (i + 2)), .int (xs (i + 3))]) (rest := []) CF hK hH (c_X8_routeStep l G σ R C n sq hc.1 sp hc.2.1 (xs (i + 1)) (xs (i + 2)) (xs (i + 3))) gL_law_X8_routeStep rfl rfl rfl rfl (by decide +kernel) ⟨⟨Nat.le_of_ble_eq_true rfl, Nat.le_of_ble_eq_true rfl⟩, Nat.le_of_ble_eq_true rfl, Nat.le_of_ble_eq_true rfl⟩ 20 rfl (Nat.le_of_ble_eq_true rfl) rfl rfl rfl hl.1 rfl (Nat.le_of_ble_eq_true rfl) dL_law_1016) (fun r1 σ1 H locs hq1 hH hS => ?_)
  obtain ⟨he1, hF1⟩ := hq1
  have hm1 := IM_hi hm (hi_R hF1)
  have hc1 := ic_R hc hF1
  refine lv_aload_n hx hb dL_law_1019 rfl (lv_at hl 2 rfl) ?_
  refine l_rd hx hb hX hbl hL hS hl 1 (by decide) (by omega) dL_law_1020 dL_law_1021 dL_law_1022 dL_law_1023 dL_law_1024 ?_
  refine l_rd hx hb hX hbl hL hS hl 2 (by decide) (by omega) dL_law_1025 dL_law_1026 dL_law_1027 dL_law_1028 dL_law_1029 ?_
  refine l_rd hx hb hX hbl hL hS hl 3 (by decide) (by omega) dL_law_1030 dL_law_1031 dL_law_1032 dL_law_1033 dL_law_1034 ?_
  refine l_calli hS hfr (r_runV (n := 3) (As := [.int (xs (i + 1)), .int (xs (i + 2)), .int (xs (i + 3))]) (rest := [.int r1]) CF hK hH (c_X9_routeStep l G σ1 R C n sq hm1.1 sp hm1.2.1 (xs (i + 1)) (xs (i + 2)) (xs (i + 3))) gL_law_X9_routeStep rfl rfl rfl rfl (by decide +kernel) ⟨⟨Nat.le_of_ble_eq_true rfl, Nat.le_of_ble_eq_true rfl⟩, Nat.le_of_ble_eq_true rfl, Nat.le_of_ble_eq_true rfl⟩ 29 rfl (Nat.le_of_ble_eq_true rfl) rfl rfl rfl hl.1 rfl (Nat.le_of_ble_eq_true rfl) dL_law_1035) (fun r2 σ2 H locs hq2 hH hS => ?_)
  obtain ⟨he2, hF2⟩ := hq2
  have he : r1 = r2 := he1.trans he2.symm
  have hI : INV σ2 := inv_same hc1 (im_N hm1 hF2) (lo_N hF2)
  exact lv_icmp_eq (tgt := 1043) hx hb dL_law_1038 (by decide) (fun _ => kk σ2 H locs ls hI hH hS hl) (fun h => absurd he h)
theorem law_lt {i L : Nat} (hiL : i ≤ L) (hL : L ≤ 2560) (h : ¬ Int32.ofNat L - 5 < nI i) : i + 5 ≤ L := by
  rcases Nat.lt_or_ge L (i + 5) with q | q
  · refine absurd ?_ h
    have e : (nI L - nI 5).toInt = (L : Int) - 5 := pk_sub_toInt (by omega) (by omega)
    refine Int32.lt_iff_toInt_lt.mpr ?_
    show (nI L - nI 5).toInt < (nI i).toInt
    rw [e, nI_toInt (by omega)]
    omega
  · exact q
set_option maxRecDepth 100000 in
set_option maxHeartbeats 4000000 in
/-- the loop over the script -/
theorem law_loop {p : Program} {l : Launch} {e : Env} {s : State} {m : MethodId} {below : List Frame} {meth : Method} {c : Code} {b L : Nat} {xs : Nat → Int32} {G : Gm} (hL : L ≤ 2560) (C0 : lw_At p s m meth c b L xs) (hK : KK G s) (hfr : ∀ q, fr G q → AL s q) : ∀ (f i : Nat), i ≤ L → L < i + f → LPt p l e s m below meth c b G i 18 := by
  obtain ⟨hx, hb, hr, hml, hown, hts, hX, hbl, hlocks, hgv⟩ := id C0
  have hb : c.code = cL_law := hb
  have CF : CallFix p m c cL_law 4 s #[Value.ref b] wsL_law RL := ⟨hx, hb, hml, hown, fun w hw => hts w (wsL_law_in w hw)⟩
  intro f
  induction f with
  | zero => intro i h1 h2; omega
  | succ f ih =>
    intro i hiL hf σ H locs ls hI hH hS hl
    refine lv_iload_n hx hb dL_law_18 rfl (lv_at hl 3 rfl) ?_
    refine lv_aload_n hx hb dL_law_19 rfl (lv_at hl 0 rfl) ?_
    refine va_slen hx hb hX hbl (Nat.not_le.mpr hbl) hS dL_law_20 ?_
    refine lv_iconst (v := 5) hx hb dL_law_21 (by decide) ?_
    refine lv_isub hx hb dL_law_22 ?_
    refine lv_icmp_gt (tgt := 1049) hx hb dL_law_23 (by decide) (fun _ => ?_) (fun hle => ?_)
    · refine lv_iconst (v := 1) hx hb dL_law_1049 (by decide) ?_
      refine va_forget (fun q hq => hS.2.2 q hq) ?_
      refine W.widen (k := 600000) (n := 7302250) (by omega) (by omega) ?_
      exact lw_ret hx hb hr hlocks dL_law_1050
    · have hi5 := law_lt hiL hL hle
      have kk : LPt p l e s m below meth c b G i 1043 := by
        intro σ H locs ls hI hH hS hl
        refine lv_iinc (v := nI (i + 5)) (lv' := [(3, .int (nI (i + 5))), (0, .ref b), (1, .ref (G.2.1 20)), (2, .ref (G.2.1 29))]) hx hb dL_law_1043 hl (k := 3) rfl (nI_add i 5) (by decide) rfl (fun ls hl => ?_)
        refine lv_goto (tgt := 18) hx hb dL_law_1046 (by decide) ?_
        exact ih (i + 5) hi5 (by omega) σ H locs ls hI hH hS (lv_sub hl [1, 2, 3, 0] rfl)
      refine lv_aload_n hx hb dL_law_26 rfl (lv_at hl 0 rfl) ?_
      refine lv_iload_n hx hb dL_law_27 rfl (lv_at hl 3 rfl) ?_
      refine l_sld hx hb hX hbl hL hS i (by omega) dL_law_28 ?_
      refine lv_bipush (v := 31) hx hb dL_law_29 (by decide) ?_
      refine lv_iand hx hb dL_law_31 ?_
      obtain ⟨j, hj, ej⟩ := pk_andE (xs i) (m := 31) 5 (by decide)
      refine r_top ej ?_
      have hj2 : j = 0 ∨ j = 1 ∨ j = 2 ∨ j = 3 ∨ j = 4 ∨ j = 5 ∨ j = 6 ∨ j = 7 ∨ j = 8 ∨ j = 9 ∨ j = 10 ∨ j = 11 ∨ j = 12 ∨ j = 13 ∨ j = 14 ∨ j = 15 ∨ j = 16 ∨ j = 17 ∨ j = 18 ∨ j = 19 ∨ j = 20 ∨ j = 21 ∨ j = 22 ∨ j = 23 ∨ j = 24 ∨ j = 25 ∨ j = 26 ∨ 27 ≤ j := by omega
      rcases hj2 with rfl | rfl | rfl | rfl | rfl | rfl | rfl | rfl | rfl | rfl | rfl | rfl | rfl | rfl | rfl | rfl | rfl | rfl | rfl | rfl | rfl | rfl | rfl | rfl | rfl | rfl | rfl | h27
      · exact lv_tableIn (off := 124) (tgt := 156) hx hb dL_law_32 (by decide) (by decide) (by decide) (by decide) (law_resize hx hb hX hbl hL CF hK hfr hi5 kk σ H locs ls hI hH hS hl)
      · exact lv_tableIn (off := 157) (tgt := 189) hx hb dL_law_32 (by decide) (by decide) (by decide) (by decide) (law_setHeight hx hb hX hbl hL CF hK hfr hi5 kk σ H locs ls hI hH hS hl)
      · exact lv_tableIn (off := 200) (tgt := 232) hx hb dL_law_32 (by decide) (by decide) (by decide) (by decide) (law_raiseHill hx hb hX hbl hL CF hK hfr hi5 kk σ H locs ls hI hH hS hl)
      · exact lv_tableIn (off := 253) (tgt := 285) hx hb dL_law_32 (by decide) (by decide) (by decide) (by decide) (law_height hx hb hX hbl hL CF hK hfr hi5 kk σ H locs ls hI hH hS hl)
      · exact lv_tableIn (off := 286) (tgt := 318) hx hb dL_law_32 (by decide) (by decide) (by decide) (by decide) (law_setAltitude hx hb hX hbl hL CF hK hfr hi5 kk σ H locs ls hI hH hS hl)
      · exact lv_tableIn (off := 309) (tgt := 341) hx hb dL_law_32 (by decide) (by decide) (by decide) (by decide) (law_setFields hx hb hX hbl hL CF hK hfr hi5 kk σ H locs ls hI hH hS hl)
      · exact lv_tableIn (off := 342) (tgt := 374) hx hb dL_law_32 (by decide) (by decide) (by decide) (by decide) (law_setCrab hx hb hX hbl hL CF hK hfr hi5 kk σ H locs ls hI hH hS hl)
      · exact lv_tableIn (off := 365) (tgt := 397) hx hb dL_law_32 (by decide) (by decide) (by decide) (by decide) (law_setSpeed hx hb hX hbl hL CF hK hfr hi5 kk σ H locs ls hI hH hS hl)
      · exact lv_tableIn (off := 408) (tgt := 440) hx hb dL_law_32 (by decide) (by decide) (by decide) (by decide) (law_addStrip hx hb hX hbl hL CF hK hfr hi5 kk σ H locs ls hI hH hS hl)
      · exact lv_tableIn (off := 461) (tgt := 493) hx hb dL_law_32 (by decide) (by decide) (by decide) (by decide) (law_removeStrip hx hb hX hbl hL CF hK hfr hi5 kk σ H locs ls hI hH hS hl)
      · exact lv_tableIn (off := 484) (tgt := 516) hx hb dL_law_32 (by decide) (by decide) (by decide) (by decide) (law_stripCount hx hb hX hbl hL CF hK hfr hi5 kk σ H locs ls hI hH hS hl)
      · exact lv_tableIn (off := 497) (tgt := 529) hx hb dL_law_32 (by decide) (by decide) (by decide) (by decide) (law_photoCount hx hb hX hbl hL CF hK hfr hi5 kk σ H locs ls hI hH hS hl)
      · exact lv_tableIn (off := 520) (tgt := 552) hx hb dL_law_32 (by decide) (by decide) (by decide) (by decide) (law_photoColumn hx hb hX hbl hL CF hK hfr hi5 kk σ H locs ls hI hH hS hl)
      · exact lv_tableIn (off := 553) (tgt := 585) hx hb dL_law_32 (by decide) (by decide) (by decide) (by decide) (law_seesCell hx hb hX hbl hL CF hK hfr hi5 kk σ H locs ls hI hH hS hl)
      · exact lv_tableIn (off := 606) (tgt := 638) hx hb dL_law_32 (by decide) (by decide) (by decide) (by decide) (law_footprintSize hx hb hX hbl hL CF hK hfr hi5 kk σ H locs ls hI hH hS hl)
      · exact lv_tableIn (off := 639) (tgt := 671) hx hb dL_law_32 (by decide) (by decide) (by decide) (by decide) (law_coverage hx hb hX hbl hL CF hK hfr hi5 kk σ H locs ls hI hH hS hl)
      · exact lv_tableIn (off := 672) (tgt := 704) hx hb dL_law_32 (by decide) (by decide) (by decide) (by decide) (law_gapCount hx hb hX hbl hL CF hK hfr hi5 kk σ H locs ls hI hH hS hl)
      · exact lv_tableIn (off := 695) (tgt := 727) hx hb dL_law_32 (by decide) (by decide) (by decide) (by decide) (law_gapAt hx hb hX hbl hL CF hK hfr hi5 kk σ H locs ls hI hH hS hl)
      · exact lv_tableIn (off := 728) (tgt := 760) hx hb dL_law_32 (by decide) (by decide) (by decide) (by decide) (law_forwardOverlap hx hb hX hbl hL CF hK hfr hi5 kk σ H locs ls hI hH hS hl)
      · exact lv_tableIn (off := 761) (tgt := 793) hx hb dL_law_32 (by decide) (by decide) (by decide) (by decide) (law_sideOverlap hx hb hX hbl hL CF hK hfr hi5 kk σ H locs ls hI hH hS hl)
      · exact lv_tableIn (off := 794) (tgt := 826) hx hb dL_law_32 (by decide) (by decide) (by decide) (by decide) (law_planPhotos hx hb hX hbl hL CF hK hfr hi5 kk σ H locs ls hI hH hS hl)
      · exact lv_tableIn (off := 817) (tgt := 849) hx hb dL_law_32 (by decide) (by decide) (by decide) (by decide) (law_planRowSpacing hx hb hX hbl hL CF hK hfr hi5 kk σ H locs ls hI hH hS hl)
      · exact lv_tableIn (off := 840) (tgt := 872) hx hb dL_law_32 (by decide) (by decide) (by decide) (by decide) (law_planPhotoSpacing hx hb hX hbl hL CF hK hfr hi5 kk σ H locs ls hI hH hS hl)
      · exact lv_tableIn (off := 863) (tgt := 895) hx hb dL_law_32 (by decide) (by decide) (by decide) (by decide) (law_applyPlan hx hb hX hbl hL CF hK hfr hi5 kk σ H locs ls hI hH hS hl)
      · exact lv_tableIn (off := 886) (tgt := 918) hx hb dL_law_32 (by decide) (by decide) (by decide) (by decide) (law_stripTime hx hb hX hbl hL CF hK hfr hi5 kk σ H locs ls hI hH hS hl)
      · exact lv_tableIn (off := 935) (tgt := 967) hx hb dL_law_32 (by decide) (by decide) (by decide) (by decide) (law_routeTime hx hb hX hbl hL CF hK hfr hi5 kk σ H locs ls hI hH hS hl)
      · exact lv_tableIn (off := 968) (tgt := 1000) hx hb dL_law_32 (by decide) (by decide) (by decide) (by decide) (law_routeStep hx hb hX hbl hL CF hK hfr hi5 kk σ H locs ls hI hH hS hl)
      · exact lv_tableOut (tgt := 1043) hx hb dL_law_32 (Or.inr (by rw [nI_toInt (by omega)]; omega)) (by decide) (kk σ H locs ls hI hH hS hl)
