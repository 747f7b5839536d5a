/-! ===== constructors: worlds that grow ===== -/
def KI (U : State) : Prop := va_AO RX5 U ∧ va_Nw (.methodLinkNest RX6 17 yX5_init RX8) U ∧ va_Nw (.methodLinkNest RX8 39 yX2_init RX8) U
theorem KI.moved {s U : State} (hW : s.WarmedH U.vm) (h : KI s) : KI U := ⟨va_AO.moved hW.alike h.1, h.2.1.warmM hW, h.2.2.warmM hW⟩
theorem KI.same {s U : State} (hv : s.vm = U.vm) (h : KI s) : KI U := ⟨va_AO.moved (by rw [hv]; exact Vm.Alike.refl U.vm) h.1, h.2.1.same rfl hv, h.2.2.same rfl hv⟩
def IPc (D : va_G) (w0 : va_W) (h0 sz : Nat) : Array Value → State → Prop := va_Pc [.ref h0] (fun U => U.heap.size = sz ∧ va_P D vwCl w0 U.heap ∧ va_K D vwCl [] U ∧ KI U ∧ va_D (fun _ => True) w0)
theorem IPc.blind (D : va_G) (w0 : va_W) (h0 sz : Nat) : FrameBlind (IPc D w0 h0 sz) := fun a U g mk q => by
  obtain ⟨q0, q1, q2, q3, q4, q5⟩ := q
  exact ⟨q0, q1, q2, va_K.moved (u := U) (U := U.calling g mk a) (Vm.Alike.refl U.vm) q3, KI.same (s := U) (U := U.calling g mk a) rfl q4, q5⟩
abbrev IQc (D : va_G) (w0 : va_W) (sz : Nat) (B : va_W → List (ClassId × FieldType) → Prop) : Array Value → State → Outcome → State → Prop := va_Qv (fun u : va_W × List (ClassId × FieldType) => B u.1 u.2) (fun u t => va_P D vwCl u.1 t.heap ∧ va_K D vwCl u.2 t ∧ va_D (va_A w0 sz) u.1) (va_A w0 sz)
section CTOR
variable {p : Program} {l : Launch} {e : Env} {R : Room} {s : State} {m : MethodId} {args : Array Value} {below : List Frame} {meth : Method} {c : Code} {H H0 : Heap} {locs : List Loc} {cells slots mc ms : Nat} {Q : State → Prop}
variable {cc bytes : ByteArray} {pc : Nat} {ls : Array Slot} {rest st : List Value} {D : va_G} {A : Nat → Prop} {ws wr : va_W} {tys : List (ClassId × FieldType)} {q : Nat} {e0 : va_E} {B : va_W → List (ClassId × FieldType) → Prop} {maxL : Nat} {y : MethodName} {wds wds' : List Cond} {rm : Room}
theorem i_pre (hKI : KI s) (hK : va_K D vwCl tys s) (hP : va_P D vwCl ws H) (hD : va_D A ws) (pos : Nat) (hC : ws[pos]? = some (q, e0)) : PreS s H (IPc D [(q, e0)] q H.size) [.ref q] := by
  refine ⟨IPc.blind _ _ _ _, fun U hU hW => ⟨rfl, by rw [hU], ?_, va_K.moved hW.alike (hK.sub (tys' := []) [] rfl), hKI.moved hW, ?_⟩⟩
  · rw [hU]; exact hP.sub [pos] (by simp [hC])
  · exact (hD.sub [pos] rfl (by simp [hC])).weaken (fun _ _ _ _ => trivial)
theorem i_goes (hK : va_K D vwCl tys s) (hP : va_P D vwCl ws H) (hD : va_D A ws) (hS : va_S A H0 H locs) (hA : ∀ q, H0.size ≤ q → A q) (pos : Nat) (isR : List Nat) (hC : ws[pos]? = some (q, e0)) (hR : isR.map (fun i => ws[i]?) = wr.map some) (hn : va_nd isR = true) (hdis : pos ∉ isR) {av : Array Value}
    (hr : va_Run p l e R s m args below meth c H locs cells slots mc ms (F0 m pc ls st) rest (IQc D [(q, e0)] H.size B av) (va_A [(q, e0)] H.size))
    (kk : ∀ (w1 : va_W) (tys1 : List (ClassId × FieldType)) (H1 : Heap) (locs1 : List Loc), B w1 tys1 → va_P D vwCl (wr ++ w1) H1 → va_D A (wr ++ w1) → va_K D vwCl (tys ++ tys1) s → va_S A H0 H1 locs1 → W p l e R s m args below meth c H1 locs1 (cells + mc) (slots + ms) Q (F0 m (pc + 3) ls rest)) : W p l e R s m args below meth c H locs cells slots Q (F0 m pc ls st) := by
  have hC' : [pos].map (fun i => ws[i]?) = ([(q, e0)] : va_W).map some := by simp [hC]
  have hFc := va_free (wc := [(q, e0)]) hD hS hA [pos] hC'
  refine va_callv hr hS (fun q _ h => hFc q h) hFc (fun u t H1 locs1 ht hvm hw hB hz1 hk1 hS1 => ?_)
  obtain ⟨hP1, hK1, hD1⟩ := hB
  rw [ht] at hP1
  have hK1 := va_K.moved hvm.symm hK1
  obtain ⟨hP2, hD2⟩ := va_join (wr := wr) (w1 := u.1) hP hD [pos] isR hC' hR hn (fun i hi h => hdis (by rw [List.mem_singleton] at h; rw [← h]; exact hi)) hk1 hFc hP1 hD1
  exact kk u.1 u.2 H1 locs1 hw hP2 hD2 (hK.app hK1) hS1
theorem i_start {w0 : va_W} {h0 sz : Nat} (hy : plainName y.cls = true) (hname : y.name = "<init>") (hw : wds = Cond.code y cc maxL none :: wds') (hav : 1 ≤ maxL)
    (body : ∀ (p : Program) (e : Env) (s : State) (m : MethodId) (below : List Frame) (meth : Method) (c : Code) (ls : Array Slot), CallFix p m c cc maxL s (List.toArray [Value.ref h0]) wds y.cls → meth.sig.returnType = none → meth.locks = false → meth.name = "<init>" → KI s → va_K D vwCl [] s → s.heap.size = sz → va_P D vwCl w0 s.heap → va_D (va_A w0 sz) w0 → va_S (va_A w0 sz) s.heap s.heap [] → (∀ q : Nat, s.heap.size ≤ q → va_A w0 sz q) → lv_has ls maxL [(0, .ref h0)] →
      W p l e rm s m (List.toArray [Value.ref h0]) below meth c s.heap [] 0 0 (MQ below (IQc D w0 sz B) (List.toArray [Value.ref h0]) s mc ms (va_A w0 sz)) (F0 m 0 ls [])) : Met l y wds rm (IPc D w0 h0 sz) (IQc D w0 sz B) mc ms (va_A w0 sz) := by
  refine Met.ofW (cc := cc) (maxL := maxL) (ret := none) hy hw ?_
  intro p e s m args below meth c s₁ B hml hv
  obtain ⟨rfl, hsz, hP, hK, hKI, hD⟩ := hv
  have hl := lv_entry [Value.ref h0] (n := maxL) hav
  rw [lg_entry_eq]
  exact body p e s m below meth c _ ⟨B.exec, B.bytes, hml, findClass_of_methodNamed B.named, atoms_spec (ws := wds) B.pre⟩ B.returns B.notSynchronized ((name_of_methodNamed B.named B.method).1.trans hname) hKI hK hsz hP hD.self va_S.rf (fun q h => by rw [hsz] at h; exact Or.inr h) hl
theorem i_ret {w0 : va_W} {sz : Nat} (hx : p.tables.exec = Jvm.exec) (hb : c.code = cc) (hr : meth.sig.returnType = none) (hlk : meth.locks = false) (hK : va_K D vwCl tys s) (hP : va_P D vwCl ws H) (hD : va_D (va_A w0 sz) ws) (hS : va_S (va_A w0 sz) s.heap H locs) (hdg : decode cc pc = .ok (.return_, 1)) (hB : B ws tys) :
    W p l e R s m args below meth c H locs cells slots (MQ below (IQc D w0 sz B) args s cells slots (va_A w0 sz)) (F0 m pc ls []) :=
  W.vret hx hb hr (fun t ht hW => ⟨⟨(ws, tys), rfl, hB, by rw [ht]; exact hP, va_K.moved hW.alike hK, hD⟩, hS.F ht⟩) hS.2.2 hdg hlk
end CTOR
