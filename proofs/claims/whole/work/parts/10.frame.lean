/-! ===== The one world: 37 cells, at the addresses G.2.1 0 .. G.2.1 36; σ k j is the j-th int of cell k. 0..7 the survey's strips, 8..15 the trial's, 16 17 their lists, 18 19 the lists' arrays, 20 the survey, 21 terrain, 22 heights, 23 camera, 24 aircraft, 25 overlap, 26 planner, 27 router, 28 timeLeft; 29 the reference, 30 ground, 31..34 its strips, 35 seenFrom, 36 rest ===== -/
abbrev Sg : Type := Nat → Nat → Int32
abbrev Gm : Type := va_G × (Nat → Nat) × ClassId × ClassId × ClassId
def we (G : Gm) (k : Nat) (f : Nat → Int32) : va_E :=
  if k < 16 then .inr (5, [.int (f 0), .int (f 1), .int (f 2), .int (f 3)])
  else if k < 18 then .inr (6, [.int (f 0), .ref (G.2.1 (k + 2))])
  else if k < 20 then .inl (G.2.2.2.2, 8, .inr (.inr (.inr (.inr (fun i => some (G.2.1 (8 * (k - 18) + i)))))))
  else match k with
  | 20 => .inr (8, [.ref (G.2.1 21), .ref (G.2.1 23), .ref (G.2.1 24), .ref (G.2.1 16), .ref (G.2.1 25), .ref (G.2.1 26), .ref (G.2.1 27)])
  | 21 => .inr (7, [.int (f 0), .int (f 1), .ref (G.2.1 22)])
  | 22 => .inl (G.2.2.1, 160, .inl f)
  | 23 => .inr (1, [.int (f 0), .int (f 1), .int (f 2), .int (f 3)])
  | 24 => .inr (0, [.int (f 0), .int (f 1), .int (f 2)])
  | 25 => .inr (2, [.int (f 0), .int (f 1), .int (f 2)])
  | 26 => .inr (3, [.int (f 0), .int (f 1), .int (f 2), .ref (G.2.1 17)])
  | 27 => .inr (4, [.ref (G.2.1 28), .int (f 1), .int (f 2)])
  | 28 => .inl (G.2.2.1, 4096, .inl f)
  | 29 => .inr (9, [.int (f 0), .int (f 1), .int (f 2), .int (f 3), .int (f 4), .int (f 5), .int (f 6), .int (f 7), .int (f 8), .ref (G.2.1 30), .int (f 10), .ref (G.2.1 31), .ref (G.2.1 32), .ref (G.2.1 33), .ref (G.2.1 34), .ref (G.2.1 35), .int (f 16), .int (f 17), .int (f 18), .ref (G.2.1 36)])
  | 30 => .inl (G.2.2.1, 160, .inl f)
  | 31 => .inl (G.2.2.1, 8, .inl f)
  | 32 => .inl (G.2.2.1, 8, .inl f)
  | 33 => .inl (G.2.2.1, 8, .inl f)
  | 34 => .inl (G.2.2.1, 8, .inl f)
  | 35 => .inl (G.2.2.2.1, 25600, .inl f)
  | _ => .inl (G.2.2.1, 4096, .inl f)
theorem we_s (G : Gm) {k : Nat} (h : k < 16) (f : Nat → Int32) : we G k f = .inr (5, [.int (f 0), .int (f 1), .int (f 2), .int (f 3)]) := by simp [we, h]
theorem we_l (G : Gm) {b : Nat} (h : b < 2) (f : Nat → Int32) : we G (16 + b) f = .inr (6, [.int (f 0), .ref (G.2.1 (18 + b))]) := by
  have e : 16 + b + 2 = 18 + b := by omega
  have h1 : ¬ 16 + b < 16 := by omega
  have h2 : 16 + b < 18 := by omega
  simp only [we, if_neg h1, if_pos h2, e]
theorem we_a (G : Gm) {b : Nat} (h : b < 2) (f : Nat → Int32) : we G (18 + b) f = .inl (G.2.2.2.2, 8, .inr (.inr (.inr (.inr (fun i => some (G.2.1 (8 * b + i))))))) := by
  have e : 18 + b - 18 = b := by omega
  have h1 : ¬ 18 + b < 16 := by omega
  have h2 : ¬ 18 + b < 18 := by omega
  have h3 : 18 + b < 20 := by omega
  simp only [we, if_neg h1, if_neg h2, if_pos h3, e]
def wl (G : Gm) (σ : Sg) : va_W := (List.range 37).map (fun k => (G.2.1 k, we G k (σ k)))
theorem wl_at (G : Gm) (σ : Sg) {k : Nat} (h : k < 37) : (wl G σ)[k]? = some (G.2.1 k, we G k (σ k)) := by simp [wl, h]
theorem wl_in {G : Gm} {σ : Sg} {k : Nat} {q : Nat × va_E} (h : (wl G σ)[k]? = some q) : k < 37 ∧ q = (G.2.1 k, we G k (σ k)) := by
  have hk : k < 37 := by
    have := (List.getElem?_eq_some_iff.mp h).1
    simpa [wl] using this
  rw [wl_at G σ hk] at h
  exact ⟨hk, (Option.some.inj h).symm⟩
def u2 (σ : Sg) (k j : Nat) (v : Int32) : Sg := va_up σ k (va_up (σ k) j v)
theorem u2_ss (σ : Sg) (k j : Nat) (v : Int32) : u2 σ k j v k j = v := by simp [u2, va_up]
theorem u2_sn (σ : Sg) (k : Nat) {j j' : Nat} (v : Int32) (h : j' ≠ j) : u2 σ k j v k j' = σ k j' := by simp [u2, va_up, h]
theorem u2_n (σ : Sg) {k k' : Nat} (j : Nat) (v : Int32) (h : k' ≠ k) : u2 σ k j v k' = σ k' := by simp [u2, va_up, h]
theorem u2_s (σ : Sg) (k j : Nat) (v : Int32) : u2 σ k j v k = va_up (σ k) j v := by simp [u2, va_up]
theorem up_s {α : Type} (f : Nat → α) (k : Nat) (v : α) : va_up f k v k = v := by simp [va_up]
theorem up_n {α : Type} (f : Nat → α) {k k' : Nat} (v : α) (h : k' ≠ k) : va_up f k v k' = f k' := by simp [va_up, h]
theorem wl_set (G : Gm) (σ : Sg) {k : Nat} (hk : k < 37) (f : Nat → Int32) : (wl G σ).set k (G.2.1 k, we G k f) = wl G (va_up σ k f) := by
  apply List.ext_getElem?
  intro i
  by_cases hi : i = k
  · subst hi
    rw [List.getElem?_set_self (by simpa [wl] using hk), wl_at G _ hk, up_s]
  · rw [List.getElem?_set_ne (Ne.symm hi)]
    by_cases h : i < 37
    · rw [wl_at G _ h, wl_at G _ h, up_n _ _ hi]
    · simp [wl, h]
def Hp (G : Gm) (σ : Sg) (H : Heap) : Prop := va_P G.1 vwCl (wl G σ) H
def inj37 (G : Gm) : Prop := ∀ i j : Nat, i < 37 → j < 37 → G.2.1 i = G.2.1 j → i = j
def fr (G : Gm) : Nat → Prop := fun q => ∃ k : Nat, k < 37 ∧ q = G.2.1 k
theorem wl_D {G : Gm} (h : inj37 G) (σ : Sg) : va_D (fr G) (wl G σ) := by
  refine ⟨fun i j p q hi hj e => ?_, fun k q hk => ?_⟩
  · obtain ⟨h1, rfl⟩ := wl_in hi
    obtain ⟨h2, rfl⟩ := wl_in hj
    exact h i j h1 h2 e
  · obtain ⟨h1, rfl⟩ := wl_in hk
    exact ⟨k, h1, rfl⟩
def NW (U : State) : Prop := va_Nw (.methodLinkNest RX7 32 yX8_quotient RX8) U ∧ va_Nw (.methodLinkNest RX5 22 yX8_quotient RX8) U ∧ va_Nw (.methodLinkNest RX2 25 yX8_quotient RX8) U ∧ va_Nw (.methodLinkNest RX6 50 yX8_quotient RX8) U ∧ va_Nw (.methodLinkNest RX0 27 yX8_quotient RX8) U
abbrev tys3 (G : Gm) : List (ClassId × FieldType) := [(G.2.2.1, .int), (G.2.2.2.1, .boolean), (G.2.2.2.2, .object RX5)]
def KK (G : Gm) (U : State) : Prop := va_K G.1 vwCl (tys3 G) U ∧ inj37 G ∧ NW U
theorem KK.moved {G : Gm} {s U : State} (hW : s.WarmedH U.vm) (h : KK G s) : KK G U :=
  ⟨va_K.moved hW.alike h.1, h.2.1, h.2.2.1.warmM hW, h.2.2.2.1.warmM hW, h.2.2.2.2.1.warmM hW, h.2.2.2.2.2.1.warmM hW, h.2.2.2.2.2.2.warmM hW⟩
theorem KK.same {G : Gm} {s U : State} (hv : s.vm = U.vm) (h : KK G s) : KK G U :=
  ⟨va_K.moved (by rw [hv]; exact Vm.Alike.refl U.vm) h.1, h.2.1, h.2.2.1.same rfl hv, h.2.2.2.1.same rfl hv, h.2.2.2.2.1.same rfl hv, h.2.2.2.2.2.1.same rfl hv, h.2.2.2.2.2.2.same rfl hv⟩
def PP (G : Gm) (av : List Value) (σ : Sg) : Array Value → State → Prop := va_Pc av (fun U => Hp G σ U.heap ∧ KK G U)
theorem PP.blind (G : Gm) (av : List Value) (σ : Sg) : FrameBlind (PP G av σ) := fun a U g mk q => by
  obtain ⟨q0, q1, q2⟩ := q
  exact ⟨q0, q1, KK.same (s := U) (U := U.calling g mk a) rfl q2⟩
def HB (G : Gm) : Sg → State → Prop := fun σ t => Hp G σ t.heap
abbrev QI (G : Gm) (post : Int32 → Sg → Prop) : Array Value → State → Outcome → State → Prop := va_Qi post (HB G) (fr G)
abbrev QV (G : Gm) (post : Sg → Prop) : Array Value → State → Outcome → State → Prop := va_Qv post (HB G) (fr G)
abbrev QO (G : Gm) (post : Option Nat → Sg → Prop) : Array Value → State → Outcome → State → Prop := va_Qq post (HB G) (fr G)
abbrev rmO (f L : Nat) : Room := { frames := f, cells := 0, slots := 0, locals := L }
def b2i (b : Bool) : Int32 := if b then 1 else 0
theorem b2i_t : b2i true = 1 := rfl
theorem b2i_f : b2i false = 0 := rfl
theorem b2i_0 {b : Bool} : b2i b = 0 ↔ b = false := by cases b <;> simp [b2i]
theorem b2i_1 {b : Bool} : ¬ b2i b = 0 ↔ b = true := by cases b <;> simp [b2i]
theorem b2i_nar (b : Bool) : narrow .boolean (.int (b2i b)) = .int (b2i b) := by cases b <;> rfl
abbrev RV (v : Int32) (σ2 : Sg) : Int32 → Sg → Prop := fun r σ' => r = v ∧ σ' = σ2
abbrev VV (σ2 : Sg) : Sg → Prop := fun σ' => σ' = σ2
section FRAME
variable {p : Program} {l : Launch} {e : Env} {R : Room} {s : State} {m : MethodId} {args : Array Value} {below : List Frame} {meth : Method} {c : Code} {H : Heap} {locs : List Loc} {cells slots : Nat} {Q : State → Prop}
variable {cc bytes : ByteArray} {pc : Nat} {ls : Array Slot} {rest : List Value} {G : Gm} {σ : Sg} {nL : Nat} {Ts ws ws' : List Cond} {own : String} {index : Nat} {C : String} {T : u_T} {N ci : Nat} {fs : List Value} {a : Nat} {y : MethodName} {maxL n : Nat} {ret : Option FieldType} {rm : Room} {As st : List Value}
theorem Hp.he (k : Nat) (hk : k < 37) {E : va_E} (he : we G k (σ k) = E) : (wl G σ)[k]? = some (G.2.1 k, E) := by rw [wl_at G σ hk, he]
theorem r_get (CF : CallFix p m c cc nL s args Ts own) (hK : KK G s) (hH : Hp G σ H) (k : Nat) (hk : k < 37) (he : we G k (σ k) = .inr (ci, fs)) (hc : vwCl[ci]? = some (C, T, N)) (hin : ∀ w ∈ u_ws C T N, w ∈ Ts) (j : Nat) (hj : j < N) (hlink : (Cond.fieldLink own index (T j).1 (T j).2.1 (T j).2.2.1).before args s = true) {v : Value} (hv : fs[j]? = some v) (hdg : decode cc pc = .ok (.getfield index, 3))
    (kk : W p l e R s m args below meth c H locs cells slots Q (F0 m (pc + 3) ls (v :: rest))) : W p l e R s m args below meth c H locs cells slots Q (F0 m pc ls (.ref (G.2.1 k) :: rest)) :=
  va_get CF.1 CF.2.1 CF.2.2.2.2 hin CF.2.2.2.1 hK.1 hH k (Hp.he k hk he) hc j hj hlink (fun _ h => h) hv hdg kk
theorem r_put (CF : CallFix p m c cc nL s args Ts own) (hK : KK G s) (hH : Hp G σ H) (hS : va_S (fr G) s.heap H locs) (k : Nat) (hk : k < 37) (he : we G k (σ k) = .inr (ci, fs)) (hc : vwCl[ci]? = some (C, T, N)) (hin : ∀ w ∈ u_ws C T N, w ∈ Ts) (ty0 : Nat → FieldType) (hty : ∀ k, k < N → parseFieldDescriptor (T k).2.2.1 = some (ty0 k)) (hnm : ∀ a, a < N → ∀ b, b < N → a ≠ b → (T a).2.1 ≠ (T b).2.1) (j : Nat) (hj : j < N) (hlink : (Cond.fieldLink own index (T j).1 (T j).2.1 (T j).2.2.1).before args s = true) (hfin : (T j).2.2.2 = false) (hd : parseFieldDescriptor (T j).2.2.1 = some .int) {v : Int32} (hl : j < fs.length) (hnew : we G k (va_up (σ k) j v) = .inr (ci, fs.set j (.int v))) (hdg : decode cc pc = .ok (.putfield index, 3))
    (kk : ∀ (H1 : Heap) (locs1 : List Loc), Hp G (u2 σ k j v) H1 → va_S (fr G) s.heap H1 locs1 → W p l e R s m args below meth c H1 locs1 cells slots Q (F0 m (pc + 3) ls rest)) : W p l e R s m args below meth c H locs cells slots Q (F0 m pc ls (.int v :: .ref (G.2.1 k) :: rest)) := by
  refine va_put (ty := .int) CF.1 CF.2.1 CF.2.2.2.2 hin ty0 hty hnm CF.2.2.2.1 hK.1 hH (wl_D hK.2.1 σ) hS k (Hp.he k hk he) hc j hj hlink (fun _ h => h) hfin hd rfl rfl hl hdg (fun H1 locs1 hP hD hS1 => kk H1 locs1 ?_ hS1)
  rw [← hnew, wl_set G σ hk] at hP
  exact hP
theorem nI_lt_of {i : Int32} {j n : Nat} (hi : i = nI j) (hj : j < n) (hn : n < 2 ^ 31) : vp_in i n ∧ i.toNatClampNeg = j := by
  subst hi
  exact ⟨vp_in_nI hj hn, nI_clamp (by omega)⟩
theorem r_iald (CF : CallFix p m c cc nL s args Ts own) (hK : KK G s) (hH : Hp G σ H) (k : Nat) (hk : k < 37) {N : Nat} (he : we G k (σ k) = .inl (G.2.2.1, N, .inl (σ k))) (hN : N < 2 ^ 31) {i : Int32} (j : Nat) (hi : i = nI j) (hj : j < N) (hdg : decode cc pc = .ok (.iaload, 1))
    (kk : W p l e R s m args below meth c H locs cells slots Q (F0 m (pc + 1) ls (.int (σ k j) :: rest))) : W p l e R s m args below meth c H locs cells slots Q (F0 m pc ls (.int i :: .ref (G.2.1 k) :: rest)) := by
  obtain ⟨h1, h2⟩ := nI_lt_of hi hj hN
  refine va_iald CF.1 CF.2.1 hK.1 hH k 0 (Hp.he k hk he) rfl h1 hdg ?_
  rw [h2]
  exact kk
theorem r_zald (CF : CallFix p m c cc nL s args Ts own) (hK : KK G s) (hH : Hp G σ H) (k : Nat) (hk : k < 37) {N : Nat} (he : we G k (σ k) = .inl (G.2.2.2.1, N, .inl (σ k))) (hN : N < 2 ^ 31) {i : Int32} (j : Nat) (hi : i = nI j) (hj : j < N) (hdg : decode cc pc = .ok (.baload, 1))
    (kk : W p l e R s m args below meth c H locs cells slots Q (F0 m (pc + 1) ls (.int (σ k j) :: rest))) : W p l e R s m args below meth c H locs cells slots Q (F0 m pc ls (.int i :: .ref (G.2.1 k) :: rest)) := by
  obtain ⟨h1, h2⟩ := nI_lt_of hi hj hN
  refine va_zald CF.1 CF.2.1 hK.1 hH k 1 (Hp.he k hk he) rfl h1 hdg ?_
  rw [h2]
  exact kk
theorem upd_up (f : Nat → Int32) (j : Nat) (v : Int32) : upd f j v = va_up f j v := by
  funext q
  by_cases h : q = j <;> simp [upd, va_up, h]
theorem r_iast (CF : CallFix p m c cc nL s args Ts own) (hK : KK G s) (hH : Hp G σ H) (hS : va_S (fr G) s.heap H locs) (k : Nat) (hk : k < 37) {N : Nat} (he : ∀ f, we G k f = .inl (G.2.2.1, N, .inl f)) (hN : N < 2 ^ 31) {i v : Int32} (j : Nat) (hi : i = nI j) (hj : j < N) (hdg : decode cc pc = .ok (.iastore, 1))
    (kk : ∀ (H1 : Heap) (locs1 : List Loc), Hp G (u2 σ k j v) H1 → va_S (fr G) s.heap H1 locs1 → W p l e R s m args below meth c H1 locs1 cells slots Q (F0 m (pc + 1) ls rest)) : W p l e R s m args below meth c H locs cells slots Q (F0 m pc ls (.int v :: .int i :: .ref (G.2.1 k) :: rest)) := by
  obtain ⟨h1, h2⟩ := nI_lt_of hi hj hN
  refine va_iast CF.1 CF.2.1 hK.1 hH (wl_D hK.2.1 σ) hS k 0 (Hp.he k hk (he (σ k))) rfl h1 hdg (fun H1 locs1 hP hD hS1 => kk H1 locs1 ?_ hS1)
  rw [h2, upd_up, ← he, wl_set G σ hk] at hP
  exact hP
theorem r_zast (CF : CallFix p m c cc nL s args Ts own) (hK : KK G s) (hH : Hp G σ H) (hS : va_S (fr G) s.heap H locs) (k : Nat) (hk : k < 37) {N : Nat} (he : ∀ f, we G k f = .inl (G.2.2.2.1, N, .inl f)) (hN : N < 2 ^ 31) {i : Int32} {v : Bool} (j : Nat) (hi : i = nI j) (hj : j < N) (hdg : decode cc pc = .ok (.bastore, 1))
    (kk : ∀ (H1 : Heap) (locs1 : List Loc), Hp G (u2 σ k j (b2i v)) H1 → va_S (fr G) s.heap H1 locs1 → W p l e R s m args below meth c H1 locs1 cells slots Q (F0 m (pc + 1) ls rest)) : W p l e R s m args below meth c H locs cells slots Q (F0 m pc ls (.int (b2i v) :: .int i :: .ref (G.2.1 k) :: rest)) := by
  obtain ⟨h1, h2⟩ := nI_lt_of hi hj hN
  refine va_zast CF.1 CF.2.1 hK.1 hH (wl_D hK.2.1 σ) hS k 1 (Hp.he k hk (he (σ k))) rfl h1 hdg (fun H1 locs1 hP hD hS1 => kk H1 locs1 ?_ hS1)
  have e : vp_nar .boolean (b2i v) = b2i v := by cases v <;> rfl
  rw [h2, e, upd_up, ← he, wl_set G σ hk] at hP
  exact hP
theorem r_alen (CF : CallFix p m c cc nL s args Ts own) (hK : KK G s) (hH : Hp G σ H) (k : Nat) (hk : k < 37) {cA : ClassId} {x : vp_A} (he : we G k (σ k) = .inl (cA, x)) (t0 : Nat) {ty : FieldType} (ht : (tys3 G)[t0]? = some (cA, ty)) {v : Int32} (hv : Int32.ofNat x.1 = v) (hdg : decode cc pc = .ok (.arraylength, 1))
    (kk : W p l e R s m args below meth c H locs cells slots Q (F0 m (pc + 1) ls (.int v :: rest))) : W p l e R s m args below meth c H locs cells slots Q (F0 m pc ls (.ref (G.2.1 k) :: rest)) :=
  va_alen CF.1 CF.2.1 hK.1 hH k t0 (Hp.he k hk he) ht hv hdg kk
/-- a strip out of a list's array -/
theorem r_aald (CF : CallFix p m c cc nL s args Ts own) (hK : KK G s) (hH : Hp G σ H) {b : Nat} (hb : b < 2) {i : Int32} (j : Nat) (hi : i = nI j) (hj : j < 8) (hdg : decode cc pc = .ok (.aaload, 1))
    (kk : W p l e R s m args below meth c H locs cells slots Q (F0 m (pc + 1) ls (.ref (G.2.1 (8 * b + j)) :: rest))) : W p l e R s m args below meth c H locs cells slots Q (F0 m pc ls (.int i :: .ref (G.2.1 (18 + b)) :: rest)) := by
  obtain ⟨h1, h2⟩ := nI_lt_of hi hj (by omega)
  refine va_aldq CF.1 CF.2.1 hK.1 hH (18 + b) 2 (Hp.he (18 + b) (by omega) (we_a G hb _)) rfl h1 hdg ?_
  rw [h2]
  exact kk
theorem r_iret {post : Int32 → Sg → Prop} (CF : CallFix p m c cc nL s args Ts own) (hr : meth.sig.returnType = some .int) (hlk : meth.locks = false) (hH : Hp G σ H) (hS : va_S (fr G) s.heap H locs) {v : Int32} (hdg : decode cc pc = .ok (.ireturn, 1)) (hp : post v σ) : W p l e R s m args below meth c H locs cells slots (MQ below (QI G post) args s cells slots (fr G)) (F0 m pc ls [.int v]) :=
  W.iret CF.1 CF.2.1 hr (fun t ht _ => ⟨⟨v, σ, rfl, hp, by show Hp G σ t.heap; rw [ht]; exact hH⟩, hS.F ht⟩) hS.2.2 hdg hlk
theorem r_zret {post : Int32 → Sg → Prop} (CF : CallFix p m c cc nL s args Ts own) (hr : meth.sig.returnType = some .boolean) (hlk : meth.locks = false) (hH : Hp G σ H) (hS : va_S (fr G) s.heap H locs) {v : Int32} (hn : narrow .boolean (.int v) = .int v) (hdg : decode cc pc = .ok (.ireturn, 1)) (hp : post v σ) : W p l e R s m args below meth c H locs cells slots (MQ below (QI G post) args s cells slots (fr G)) (F0 m pc ls [.int v]) :=
  W.zret CF.1 CF.2.1 hr hn (fun t ht _ => ⟨⟨v, σ, rfl, hp, by show Hp G σ t.heap; rw [ht]; exact hH⟩, hS.F ht⟩) hS.2.2 hdg hlk
theorem r_vret {post : Sg → Prop} (CF : CallFix p m c cc nL s args Ts own) (hr : meth.sig.returnType = none) (hlk : meth.locks = false) (hH : Hp G σ H) (hS : va_S (fr G) s.heap H locs) (hdg : decode cc pc = .ok (.return_, 1)) (hp : post σ) : W p l e R s m args below meth c H locs cells slots (MQ below (QV G post) args s cells slots (fr G)) (F0 m pc ls []) :=
  W.vret CF.1 CF.2.1 hr (fun t ht _ => ⟨⟨σ, rfl, hp, by show Hp G σ t.heap; rw [ht]; exact hH⟩, hS.F ht⟩) hS.2.2 hdg hlk
theorem r_aret {post : Option Nat → Sg → Prop} (CF : CallFix p m c cc nL s args Ts own) {C : String} (hr : meth.sig.returnType = some (.object C)) (hlk : meth.locks = false) (hH : Hp G σ H) (hS : va_S (fr G) s.heap H locs) (o : Option Nat) {v : Value} (hv : v = va_rf o) (hdg : decode cc pc = .ok (.areturn, 1)) (hp : post o σ) : W p l e R s m args below meth c H locs cells slots (MQ below (QO G post) args s cells slots (fr G)) (F0 m pc ls [v]) :=
  W.aret CF.1 CF.2.1 hr (Or.inl ⟨_, rfl⟩) (by subst hv; cases o with | none => exact Or.inl rfl | some x => exact Or.inr ⟨x, rfl⟩) (fun t ht _ => ⟨⟨o, σ, by rw [hv], hp, by show Hp G σ t.heap; rw [ht]; exact hH⟩, hS.F ht⟩) hS.2.2 hdg hlk
theorem r_preS (hK : KK G s) (hH : Hp G σ H) : PreS s H (PP G As σ) As :=
  ⟨PP.blind G As σ, fun U hU hW => ⟨rfl, by rw [hU]; exact hH, hK.moved hW⟩⟩
theorem r_preV (hK : KK G s) (hH : Hp G σ H) (k : Nat) (hk : k < 37) (he : we G k (σ k) = .inr (ci, fs)) (hc : vwCl[ci]? = some (C, T, N)) : PreV s H C (G.2.1 k) (PP G (.ref (G.2.1 k) :: As) σ) As :=
  ⟨PP.blind G _ σ, va_recv (q := (C, T, N)) hK.1 hH hc (Hp.he k hk he), fun U hU hW => ⟨rfl, by rw [hU]; exact hH, hK.moved hW⟩⟩
abbrev hRoom (rm R : Room) (maxL cells slots : Nat) : Prop := (rm.frames + 1 ≤ R.frames ∧ 8 + (maxL + 11) + rm.locals ≤ R.locals) ∧ cells + 0 ≤ R.cells ∧ slots + 0 ≤ R.slots
abbrev hDesc (y : MethodName) (n : Nat) : Prop := y.cls ≠ "java/lang/invoke/MethodHandle" ∧ y.cls ≠ "java/lang/invoke/VarHandle" ∧ (parseMethodDescriptor y.desc).map (fun d => d.parameters.length) = some n
/-- how a run of a callee is come by -/
theorem r_runV {Qc : Array Value → State → Outcome → State → Prop} (CF : CallFix p m c cc nL s args Ts own) (hK : KK G s) (hH : Hp G σ H) (hM : Met l y ws rm (PP G (.ref a :: As) σ) Qc 0 0 (fr G)) (hG : GoodIn Ts (wsV own index C y ws)) (hw : ws = Cond.code y bytes maxL ret :: ws') (hrc : rm.cells = 0) (hrs : rm.slots = 0) (hy : y.cls = C) (hd : hDesc y n) (hR : hRoom rm R maxL cells slots)
    (k : Nat) (ha : a = G.2.1 k) (hk : k < 37) (he : we G k (σ k) = .inr (ci, fs)) (hc : vwCl[ci]? = some (C, T, N)) (hn : As.length = n) (hsz : ls.size = nL) (hst : st = As.reverse ++ .ref a :: rest) (hW : (rest.map fun v => v.category).sum ≤ 8) (hdg : decode cc pc = .ok (.invokevirtual index, 3)) :
    va_Run p l e R s m args below meth c H locs cells slots 0 0 (F0 m pc ls st) rest (Qc (Value.ref a :: As).toArray) (fr G) := by
  subst ha
  exact va_runV CF hM (cwV n CF.2.2.2.2 hG hw hrc hrs ⟨hy, hd⟩ hR.1) (r_preV hK hH k hk he hc) rfl hn hsz hst (lv_room hW) hdg hR.2
theorem r_runS {Qc : Array Value → State → Outcome → State → Prop} (CF : CallFix p m c cc nL s args Ts own) (hK : KK G s) (hH : Hp G σ H) (hM : Met l y ws rm (PP G As σ) Qc 0 0 (fr G)) (hG : GoodIn Ts (va_wsS own index y ws)) (hw : ws = Cond.code y bytes maxL ret :: ws') (hrc : rm.cells = 0) (hrs : rm.slots = 0) (hd : hDesc y n) (hR : hRoom rm R maxL cells slots)
    (hn : As.length = n) (hsz : ls.size = nL) (hst : st = As.reverse ++ rest) (hW : (rest.map fun v => v.category).sum ≤ 8) (hdg : decode cc pc = .ok (.invokestatic index, 3)) :
    va_Run p l e R s m args below meth c H locs cells slots 0 0 (F0 m pc ls st) rest (Qc As.toArray) (fr G) :=
  va_runS CF hM (va_cwS n CF.2.2.2.2 hG hw hrc hrs hd hR.1) (r_preS hK hH) rfl hn hsz hst (lv_room hW) hdg hR.2
theorem r_runN {host : String} {Qc : Array Value → State → Outcome → State → Prop} (CF : CallFix p m c cc nL s args Ts own) (hK : KK G s) (hH : Hp G σ H) (hM : Met l y ws rm (PP G As σ) Qc 0 0 (fr G)) (hG : GoodIn Ts ws) (hw : ws = Cond.code y bytes maxL ret :: ws') (hrc : rm.cells = 0) (hrs : rm.slots = 0) (hl : va_Nw (.methodLinkNest own index y host) s) (hini : (Cond.initialized y.cls).before args s = true) (hstat : (Cond.static y).before args s = true) (hd : hDesc y n) (hR : hRoom rm R maxL cells slots)
    (hn : As.length = n) (hsz : ls.size = nL) (hst : st = As.reverse ++ rest) (hW : (rest.map fun v => v.category).sum ≤ 8) (hdg : decode cc pc = .ok (.invokestatic index, 3)) :
    va_Run p l e R s m args below meth c H locs cells slots 0 0 (F0 m pc ls st) rest (Qc As.toArray) (fr G) :=
  va_runSN CF hM ⟨va_cnB n CF.2.2.2.2 hG hw hrc hrs hl hini hd hR.1, hstat, trivial⟩ (r_preS hK hH) rfl hn hsz hst (lv_room hW) hdg hR.2
theorem r_calli {post : Int32 → Sg → Prop} {av : Array Value} (hS : va_S (fr G) s.heap H locs) (hr : va_Run p l e R s m args below meth c H locs cells slots 0 0 (F0 m pc ls st) rest (QI G post av) (fr G))
    (kk : ∀ (r : Int32) (σ1 : Sg) (H1 : Heap) (locs1 : List Loc), post r σ1 → Hp G σ1 H1 → va_S (fr G) s.heap H1 locs1 → W p l e R s m args below meth c H1 locs1 cells slots Q (F0 m (pc + 3) ls (.int r :: rest))) : W p l e R s m args below meth c H locs cells slots Q (F0 m pc ls st) :=
  va_calli hr hS (fun _ _ h => h) (fun _ h => h) (fun r u t H1 locs1 ht _ hp hB _ _ hS1 => kk r u H1 locs1 hp (by rw [← ht]; exact hB) hS1)
theorem r_callv {post : Sg → Prop} {av : Array Value} (hS : va_S (fr G) s.heap H locs) (hr : va_Run p l e R s m args below meth c H locs cells slots 0 0 (F0 m pc ls st) rest (QV G post av) (fr G))
    (kk : ∀ (σ1 : Sg) (H1 : Heap) (locs1 : List Loc), post σ1 → Hp G σ1 H1 → va_S (fr G) s.heap H1 locs1 → W p l e R s m args below meth c H1 locs1 cells slots Q (F0 m (pc + 3) ls rest)) : W p l e R s m args below meth c H locs cells slots Q (F0 m pc ls st) :=
  va_callv hr hS (fun _ _ h => h) (fun _ h => h) (fun u t H1 locs1 ht _ hp hB _ _ hS1 => kk u H1 locs1 hp (by rw [← ht]; exact hB) hS1)
theorem r_callq {post : Option Nat → Sg → Prop} {av : Array Value} (hS : va_S (fr G) s.heap H locs) (hr : va_Run p l e R s m args below meth c H locs cells slots 0 0 (F0 m pc ls st) rest (QO G post av) (fr G))
    (kk : ∀ (r : Option Nat) (σ1 : Sg) (H1 : Heap) (locs1 : List Loc), post r σ1 → Hp G σ1 H1 → va_S (fr G) s.heap H1 locs1 → W p l e R s m args below meth c H1 locs1 cells slots Q (F0 m (pc + 3) ls (va_rf r :: rest))) : W p l e R s m args below meth c H locs cells slots Q (F0 m pc ls st) :=
  va_callq hr hS (fun _ _ h => h) (fun _ h => h) (fun r u t H1 locs1 ht _ hp hB _ _ hS1 => kk r u H1 locs1 hp (by rw [← ht]; exact hB) hS1)
theorem r_cR {v : Int32} {σ2 : Sg} {av : Array Value} (hS : va_S (fr G) s.heap H locs) (hr : va_Run p l e R s m args below meth c H locs cells slots 0 0 (F0 m pc ls st) rest (QI G (RV v σ2) av) (fr G))
    (kk : ∀ (H1 : Heap) (locs1 : List Loc), Hp G σ2 H1 → va_S (fr G) s.heap H1 locs1 → W p l e R s m args below meth c H1 locs1 cells slots Q (F0 m (pc + 3) ls (.int v :: rest))) : W p l e R s m args below meth c H locs cells slots Q (F0 m pc ls st) :=
  r_calli hS hr (fun r σ1 H1 locs1 hp hH1 hS1 => by obtain ⟨rfl, rfl⟩ := hp; exact kk H1 locs1 hH1 hS1)
theorem r_cV {σ2 : Sg} {av : Array Value} (hS : va_S (fr G) s.heap H locs) (hr : va_Run p l e R s m args below meth c H locs cells slots 0 0 (F0 m pc ls st) rest (QV G (VV σ2) av) (fr G))
    (kk : ∀ (H1 : Heap) (locs1 : List Loc), Hp G σ2 H1 → va_S (fr G) s.heap H1 locs1 → W p l e R s m args below meth c H1 locs1 cells slots Q (F0 m (pc + 3) ls rest)) : W p l e R s m args below meth c H locs cells slots Q (F0 m pc ls st) :=
  r_callv hS hr (fun σ1 H1 locs1 hp hH1 hS1 => by cases hp; exact kk H1 locs1 hH1 hS1)
theorem r_ifeqB {x : Bool} {off : Int} {tgt : Nat} (hexec : p.tables.exec = Jvm.exec) (hb : c.code = cc) (hdg : decode cc pc = .ok (.ifCond .eq off, 3)) (ht : (pc : Int) + off = (tgt : Int))
    (kt : x = false → W p l e R s m args below meth c H locs cells slots Q (F0 m tgt ls rest)) (kf : x = true → W p l e R s m args below meth c H locs cells slots Q (F0 m (pc + 3) ls rest)) : W p l e R s m args below meth c H locs cells slots Q (F0 m pc ls (.int (b2i x) :: rest)) :=
  lv_if_eq hexec hb hdg ht (fun h => kt (b2i_0.mp h)) (fun h => kf (b2i_1.mp h))
theorem r_ifneB {x : Bool} {off : Int} {tgt : Nat} (hexec : p.tables.exec = Jvm.exec) (hb : c.code = cc) (hdg : decode cc pc = .ok (.ifCond .ne off, 3)) (ht : (pc : Int) + off = (tgt : Int))
    (kt : x = true → W p l e R s m args below meth c H locs cells slots Q (F0 m tgt ls rest)) (kf : x = false → W p l e R s m args below meth c H locs cells slots Q (F0 m (pc + 3) ls rest)) : W p l e R s m args below meth c H locs cells slots Q (F0 m pc ls (.int (b2i x) :: rest)) :=
  lv_if_ne hexec hb hdg ht (fun h => kt (b2i_1.mp h)) (fun h => kf (b2i_0.mp h))
theorem r_top {x y : Int32} (h : x = y) (k : W p l e R s m args below meth c H locs cells slots Q (F0 m pc ls (.int y :: rest))) : W p l e R s m args below meth c H locs cells slots Q (F0 m pc ls (.int x :: rest)) := by rw [h]; exact k
/-- a method's beginning -/
theorem r_start {Qc : Array Value → State → Outcome → State → Prop} {av : List Value} (hy : plainName y.cls = true) (hw : ws = Cond.code y cc maxL ret :: ws') (hav : (lg_sl av).length ≤ maxL)
    (body : ∀ (p : Program) (e : Env) (s : State) (m : MethodId) (below : List Frame) (meth : Method) (c : Code) (ls : Array Slot), CallFix p m c cc maxL s av.toArray ws y.cls → meth.sig.returnType = ret → meth.locks = false → KK G s → Hp G σ s.heap → va_S (fr G) s.heap s.heap [] → lv_has ls maxL (lv_args 0 av) →
      W p l e rm s m av.toArray below meth c s.heap [] 0 0 (MQ below Qc av.toArray s 0 0 (fr G)) (F0 m 0 ls [])) : Met l y ws rm (PP G av σ) Qc 0 0 (fr G) := by
  refine Met.ofW (cc := cc) (maxL := maxL) (ret := ret) hy hw ?_
  intro p e s m args below meth c s₁ B hml hv
  obtain ⟨rfl, hH, hK⟩ := hv
  have hl := lv_entry av (n := maxL) hav
  rw [lg_entry_eq]
  exact body p e s m below meth c _ ⟨B.exec, B.bytes, hml, findClass_of_methodNamed B.named, atoms_spec (ws := ws) B.pre⟩ B.returns B.notSynchronized hK hH va_S.rf hl
/-- a JDK method's beginning (no row of the model stands in its place) -/
theorem r_startF {Qc : Array Value → State → Outcome → State → Prop} {av : List Value} (hy : plainFor y = true) (hw : ws = Cond.code y cc maxL ret :: ws') (hav : (lg_sl av).length ≤ maxL)
    (body : ∀ (p : Program) (e : Env) (s : State) (m : MethodId) (below : List Frame) (meth : Method) (c : Code) (ls : Array Slot), CallFix p m c cc maxL s av.toArray ws y.cls → meth.sig.returnType = ret → meth.locks = false → KK G s → Hp G σ s.heap → va_S (fr G) s.heap s.heap [] → lv_has ls maxL (lv_args 0 av) →
      W p l e rm s m av.toArray below meth c s.heap [] 0 0 (MQ below Qc av.toArray s 0 0 (fr G)) (F0 m 0 ls [])) : Met l y ws rm (PP G av σ) Qc 0 0 (fr G) := by
  refine MetFree.of_bodySF (code := cc) (maxLocals := maxL) (ret := ret) hy ?_ ?_
  · intro args s m h hn
    obtain ⟨meth, c, h1, h2, h3, h4, h5, h6, -, -⟩ := Cond.code_spec hn (atoms_spec (ws := ws) h _ (by rw [hw]; exact List.mem_cons_self))
    exact ⟨meth, c, h1, h2, h3, h4, h5, h6⟩
  · intro p e s m args below meth c s₁ B hml hv _
    obtain ⟨rfl, hH, hK⟩ := hv
    have hh0 : s₁.heap = s.heap := by rw [B.state]; rfl
    have hl := lv_entry av (n := maxL) hav
    have K := body p e s m below meth c _ ⟨B.exec, B.bytes, hml, findClass_of_methodNamed B.named, atoms_spec (ws := ws) B.pre⟩ B.returns B.notSynchronized hK hH va_S.rf hl
    rw [← lg_entry_eq] at K
    obtain ⟨t, a1, o, b1, b2, b3⟩ := K s₁ hh0 (Stand.of_body B)
    exact ⟨t, o, a1, b1, b2, ⟨b3.1, b3.2⟩⟩
end FRAME
