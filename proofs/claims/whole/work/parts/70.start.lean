/-! ===== the first state: both constructors done ===== -/
def f21 : Nat → Int32 := fun j => match j with
  | 0 => 6
  | 1 => 10
  | _ => 0
def f23 : Nat → Int32 := fun j => match j with
  | 0 => 1000
  | 1 => 3
  | 2 => 2
  | _ => 0
def f24 : Nat → Int32 := fun j => match j with
  | 0 => 100
  | 2 => 60
  | _ => 0
def f29 : Nat → Int32 := fun j => match j with
  | 0 => 6
  | 1 => 10
  | 2 => 1000
  | 3 => 3
  | 4 => 2
  | 6 => 100
  | 8 => 60
  | _ => 0
def sg0 : Sg := fun k => if k = 21 then f21 else if k = 23 then f23 else if k = 24 then f24 else if k = 29 then f29 else fun _ => 0
theorem sg0_inv : INV sg0 := by
  have hs : okP (100, 60, 100, 100) := (by unfold okP; decide)
  refine ⟨6, 10, 0, fun _ => (0, 0, 0, 0), (100, 60, 100, 100), fun _ => 0, (1000, 3, 2, 0), 100, 0, 60, ⟨⟨rfl, rfl, by omega, by omega, by omega, by omega, ⟨fun j _ => ?_, ?_⟩, rfl, by omega, fun i hi => by omega⟩, ⟨rfl, rfl, by decide, by decide, hs⟩, rfl, rfl, rfl, rfl, rfl⟩, ⟨⟨rfl, rfl, by omega, by omega, by omega, by omega, rfl, by omega, fun i hi => by omega⟩, ⟨rfl, rfl, by decide, by decide, hs⟩, rfl, rfl, rfl, rfl, rfl⟩⟩
  · show (0 : Int32) ≤ 0 ∧ (0 : Int32) ≤ 999
    decide
  · show (100 : Int32) ≤ 1000 ∧ (1000 : Int32) ≤ 5000
    decide
def adF (h8 h9 t hg ca ai li la ov pl tl ta ro tm gr a1 a2 a3 a4 se re : Nat) (s1 s2 : Nat → Nat) : Nat → Nat := fun k => if k < 8 then s1 k else if k < 16 then s2 (k - 8) else match k with
  | 16 => li
  | 17 => tl
  | 18 => la
  | 19 => ta
  | 20 => h8
  | 21 => t
  | 22 => hg
  | 23 => ca
  | 24 => ai
  | 25 => ov
  | 26 => pl
  | 27 => ro
  | 28 => tm
  | 29 => h9
  | 30 => gr
  | 31 => a1
  | 32 => a2
  | 33 => a3
  | 34 => a4
  | 35 => se
  | _ => re
def psL : List Nat := [7, 8, 9, 10, 11, 12, 13, 14, 19, 20, 21, 22, 23, 24, 25, 26, 5, 17, 6, 18, 0, 1, 2, 3, 4, 15, 16, 27, 28, 29, 30, 31, 32, 33, 34, 35, 36]
theorem psL_inj : ∀ i, i < 37 → ∀ j, j < 37 → psL.getD i 0 = psL.getD j 0 → i = j := by decide +kernel
theorem ra_int {U : State} {x y : ClassId} (h : va_RA U x .int) (h' : va_RA U y .int) : y = x := Option.some.inj (h'.symm.trans h)
theorem ra_obj {U : State} {x y : ClassId} {C : String} (h : va_RA U x (.object C)) (h' : va_RA U y (.object C)) : y = x := by
  obtain ⟨-, -, -, -, -, q⟩ := h
  obtain ⟨-, -, -, -, -, q'⟩ := h'
  exact Option.some.inj (q'.symm.trans q)
theorem cell_q {cA : ClassId} {f k : Nat → Option Nat} (h : ∀ i, i < 8 → f i = k i) : vp_cell cA (8, .inr (.inr (.inr (.inr f)))) = vp_cell cA (8, .inr (.inr (.inr (.inr k)))) := by
  rw [vp_cell_q, vp_cell_q]
  unfold arrV
  congr 1
  apply Array.ext
  · simp
  · intro i h1 h2
    simp only [Array.getElem_ofFn]
    rw [h i (by simpa using h1)]
set_option maxRecDepth 100000 in
set_option maxHeartbeats 4000000 in
theorem gather {D : va_G} {s : State} {A : Nat → Prop} {H : Heap} (h8 h9 t hg ca ai li la ov pl tl ta ro tm gr a1 a2 a3 a4 se re : Nat) (s1 s2 : Nat → Nat) (c1 c2 c3 c4 d1 d2 d3 d4 d5 d6 d7 : ClassId) (hK : va_K D vwCl ([(c1, .int), (c2, .object RX5), (c3, .object RX5), (c4, .int)] ++ [(d1, .int), (d2, .int), (d3, .int), (d4, .int), (d5, .int), (d6, .boolean), (d7, .int)]) s) (hP : va_P D vwCl ([(h8, .inr (8, [.ref t, .ref ca, .ref ai, .ref li, .ref ov, .ref pl, .ref ro])), (t, .inr (7, [.int 6, .int 10, .ref hg])), (hg, .inl (c1, 160, .inl (fun _ => 0))), (ca, .inr (1, [.int 1000, .int 3, .int 2, .int 0])), (ai, .inr (0, [.int 100, .int 0, .int 60])), (li, .inr (6, [.int 0, .ref la])), (la, .inl (c2, 8, .inr (.inr (.inr (.inr (fun i => some (s1 i))))))), ((s1 0), .inr (5, [.int 0, .int 0, .int 0, .int 0])), ((s1 1), .inr (5, [.int 0, .int 0, .int 0, .int 0])), ((s1 2), .inr (5, [.int 0, .int 0, .int 0, .int 0])), ((s1 3), .inr (5, [.int 0, .int 0, .int 0, .int 0])), ((s1 4), .inr (5, [.int 0, .int 0, .int 0, .int 0])), ((s1 5), .inr (5, [.int 0, .int 0, .int 0, .int 0])), ((s1 6), .inr (5, [.int 0, .int 0, .int 0, .int 0])), ((s1 7), .inr (5, [.int 0, .int 0, .int 0, .int 0])), (ov, .inr (2, [.int 0, .int 0, .int 0])), (pl, .inr (3, [.int 0, .int 0, .int 0, .ref tl])), (tl, .inr (6, [.int 0, .ref ta])), (ta, .inl (c3, 8, .inr (.inr (.inr (.inr (fun i => some (s2 i))))))), ((s2 0), .inr (5, [.int 0, .int 0, .int 0, .int 0])), ((s2 1), .inr (5, [.int 0, .int 0, .int 0, .int 0])), ((s2 2), .inr (5, [.int 0, .int 0, .int 0, .int 0])), ((s2 3), .inr (5, [.int 0, .int 0, .int 0, .int 0])), ((s2 4), .inr (5, [.int 0, .int 0, .int 0, .int 0])), ((s2 5), .inr (5, [.int 0, .int 0, .int 0, .int 0])), ((s2 6), .inr (5, [.int 0, .int 0, .int 0, .int 0])), ((s2 7), .inr (5, [.int 0, .int 0, .int 0, .int 0])), (ro, .inr (4, [.ref tm, .int 0, .int 0])), (tm, .inl (c4, 4096, .inl (fun _ => 0)))] ++ [(h9, .inr (9, [.int 6, .int 10, .int 1000, .int 3, .int 2, .int 0, .int 100, .int 0, .int 60, .ref gr, .int 0, .ref a1, .ref a2, .ref a3, .ref a4, .ref se, .int 0, .int 0, .int 0, .ref re])), (gr, .inl (d1, 160, .inl (fun _ => 0))), (a1, .inl (d2, 8, .inl (fun _ => 0))), (a2, .inl (d3, 8, .inl (fun _ => 0))), (a3, .inl (d4, 8, .inl (fun _ => 0))), (a4, .inl (d5, 8, .inl (fun _ => 0))), (se, .inl (d6, 25600, .inl (fun _ => 0))), (re, .inl (d7, 4096, .inl (fun _ => 0)))]) H) (hD : va_D A ([(h8, .inr (8, [.ref t, .ref ca, .ref ai, .ref li, .ref ov, .ref pl, .ref ro])), (t, .inr (7, [.int 6, .int 10, .ref hg])), (hg, .inl (c1, 160, .inl (fun _ => 0))), (ca, .inr (1, [.int 1000, .int 3, .int 2, .int 0])), (ai, .inr (0, [.int 100, .int 0, .int 60])), (li, .inr (6, [.int 0, .ref la])), (la, .inl (c2, 8, .inr (.inr (.inr (.inr (fun i => some (s1 i))))))), ((s1 0), .inr (5, [.int 0, .int 0, .int 0, .int 0])), ((s1 1), .inr (5, [.int 0, .int 0, .int 0, .int 0])), ((s1 2), .inr (5, [.int 0, .int 0, .int 0, .int 0])), ((s1 3), .inr (5, [.int 0, .int 0, .int 0, .int 0])), ((s1 4), .inr (5, [.int 0, .int 0, .int 0, .int 0])), ((s1 5), .inr (5, [.int 0, .int 0, .int 0, .int 0])), ((s1 6), .inr (5, [.int 0, .int 0, .int 0, .int 0])), ((s1 7), .inr (5, [.int 0, .int 0, .int 0, .int 0])), (ov, .inr (2, [.int 0, .int 0, .int 0])), (pl, .inr (3, [.int 0, .int 0, .int 0, .ref tl])), (tl, .inr (6, [.int 0, .ref ta])), (ta, .inl (c3, 8, .inr (.inr (.inr (.inr (fun i => some (s2 i))))))), ((s2 0), .inr (5, [.int 0, .int 0, .int 0, .int 0])), ((s2 1), .inr (5, [.int 0, .int 0, .int 0, .int 0])), ((s2 2), .inr (5, [.int 0, .int 0, .int 0, .int 0])), ((s2 3), .inr (5, [.int 0, .int 0, .int 0, .int 0])), ((s2 4), .inr (5, [.int 0, .int 0, .int 0, .int 0])), ((s2 5), .inr (5, [.int 0, .int 0, .int 0, .int 0])), ((s2 6), .inr (5, [.int 0, .int 0, .int 0, .int 0])), ((s2 7), .inr (5, [.int 0, .int 0, .int 0, .int 0])), (ro, .inr (4, [.ref tm, .int 0, .int 0])), (tm, .inl (c4, 4096, .inl (fun _ => 0)))] ++ [(h9, .inr (9, [.int 6, .int 10, .int 1000, .int 3, .int 2, .int 0, .int 100, .int 0, .int 60, .ref gr, .int 0, .ref a1, .ref a2, .ref a3, .ref a4, .ref se, .int 0, .int 0, .int 0, .ref re])), (gr, .inl (d1, 160, .inl (fun _ => 0))), (a1, .inl (d2, 8, .inl (fun _ => 0))), (a2, .inl (d3, 8, .inl (fun _ => 0))), (a3, .inl (d4, 8, .inl (fun _ => 0))), (a4, .inl (d5, 8, .inl (fun _ => 0))), (se, .inl (d6, 25600, .inl (fun _ => 0))), (re, .inl (d7, 4096, .inl (fun _ => 0)))])) (hN : NW s) : ∃ G : Gm, KK G s ∧ Hp G sg0 H ∧ (∀ q, fr G q → A q) ∧ G.2.1 20 = h8 ∧ G.2.1 29 = h9 := by
  have ec3 : c2 = c3 := (ra_obj (hK.2 1 _ rfl).2 (hK.2 2 _ rfl).2).symm
  have ec4 : c1 = c4 := (ra_int (hK.2 0 _ rfl).2 (hK.2 3 _ rfl).2).symm
  have ed1 : c1 = d1 := (ra_int (hK.2 0 _ rfl).2 (hK.2 4 _ rfl).2).symm
  have ed2 : c1 = d2 := (ra_int (hK.2 0 _ rfl).2 (hK.2 5 _ rfl).2).symm
  have ed3 : c1 = d3 := (ra_int (hK.2 0 _ rfl).2 (hK.2 6 _ rfl).2).symm
  have ed4 : c1 = d4 := (ra_int (hK.2 0 _ rfl).2 (hK.2 7 _ rfl).2).symm
  have ed5 : c1 = d5 := (ra_int (hK.2 0 _ rfl).2 (hK.2 8 _ rfl).2).symm
  have ed7 : c1 = d7 := (ra_int (hK.2 0 _ rfl).2 (hK.2 10 _ rfl).2).symm
  subst ec3 ec4 ed1 ed2 ed3 ed4 ed5 ed7
  have key : ∀ k, k < 37 → ∃ E : va_E, ([(h8, .inr (8, [.ref t, .ref ca, .ref ai, .ref li, .ref ov, .ref pl, .ref ro])), (t, .inr (7, [.int 6, .int 10, .ref hg])), (hg, .inl (c1, 160, .inl (fun _ => 0))), (ca, .inr (1, [.int 1000, .int 3, .int 2, .int 0])), (ai, .inr (0, [.int 100, .int 0, .int 60])), (li, .inr (6, [.int 0, .ref la])), (la, .inl (c2, 8, .inr (.inr (.inr (.inr (fun i => some (s1 i))))))), ((s1 0), .inr (5, [.int 0, .int 0, .int 0, .int 0])), ((s1 1), .inr (5, [.int 0, .int 0, .int 0, .int 0])), ((s1 2), .inr (5, [.int 0, .int 0, .int 0, .int 0])), ((s1 3), .inr (5, [.int 0, .int 0, .int 0, .int 0])), ((s1 4), .inr (5, [.int 0, .int 0, .int 0, .int 0])), ((s1 5), .inr (5, [.int 0, .int 0, .int 0, .int 0])), ((s1 6), .inr (5, [.int 0, .int 0, .int 0, .int 0])), ((s1 7), .inr (5, [.int 0, .int 0, .int 0, .int 0])), (ov, .inr (2, [.int 0, .int 0, .int 0])), (pl, .inr (3, [.int 0, .int 0, .int 0, .ref tl])), (tl, .inr (6, [.int 0, .ref ta])), (ta, .inl (c2, 8, .inr (.inr (.inr (.inr (fun i => some (s2 i))))))), ((s2 0), .inr (5, [.int 0, .int 0, .int 0, .int 0])), ((s2 1), .inr (5, [.int 0, .int 0, .int 0, .int 0])), ((s2 2), .inr (5, [.int 0, .int 0, .int 0, .int 0])), ((s2 3), .inr (5, [.int 0, .int 0, .int 0, .int 0])), ((s2 4), .inr (5, [.int 0, .int 0, .int 0, .int 0])), ((s2 5), .inr (5, [.int 0, .int 0, .int 0, .int 0])), ((s2 6), .inr (5, [.int 0, .int 0, .int 0, .int 0])), ((s2 7), .inr (5, [.int 0, .int 0, .int 0, .int 0])), (ro, .inr (4, [.ref tm, .int 0, .int 0])), (tm, .inl (c1, 4096, .inl (fun _ => 0)))] ++ [(h9, .inr (9, [.int 6, .int 10, .int 1000, .int 3, .int 2, .int 0, .int 100, .int 0, .int 60, .ref gr, .int 0, .ref a1, .ref a2, .ref a3, .ref a4, .ref se, .int 0, .int 0, .int 0, .ref re])), (gr, .inl (c1, 160, .inl (fun _ => 0))), (a1, .inl (c1, 8, .inl (fun _ => 0))), (a2, .inl (c1, 8, .inl (fun _ => 0))), (a3, .inl (c1, 8, .inl (fun _ => 0))), (a4, .inl (c1, 8, .inl (fun _ => 0))), (se, .inl (d6, 25600, .inl (fun _ => 0))), (re, .inl (c1, 4096, .inl (fun _ => 0)))])[psL.getD k 0]? = some (adF h8 h9 t hg ca ai li la ov pl tl ta ro tm gr a1 a2 a3 a4 se re s1 s2 k, E) ∧ va_at D vwCl (adF h8 h9 t hg ca ai li la ov pl tl ta ro tm gr a1 a2 a3 a4 se re s1 s2 k, we (D, adF h8 h9 t hg ca ai li la ov pl tl ta ro tm gr a1 a2 a3 a4 se re s1 s2, c1, d6, c2) k (sg0 k)) H := by
    intro k hk
    match k, hk with
    | 0, _ => exact ⟨_, rfl, hP 7 _ rfl⟩
    | 1, _ => exact ⟨_, rfl, hP 8 _ rfl⟩
    | 2, _ => exact ⟨_, rfl, hP 9 _ rfl⟩
    | 3, _ => exact ⟨_, rfl, hP 10 _ rfl⟩
    | 4, _ => exact ⟨_, rfl, hP 11 _ rfl⟩
    | 5, _ => exact ⟨_, rfl, hP 12 _ rfl⟩
    | 6, _ => exact ⟨_, rfl, hP 13 _ rfl⟩
    | 7, _ => exact ⟨_, rfl, hP 14 _ rfl⟩
    | 8, _ => exact ⟨_, rfl, hP 19 _ rfl⟩
    | 9, _ => exact ⟨_, rfl, hP 20 _ rfl⟩
    | 10, _ => exact ⟨_, rfl, hP 21 _ rfl⟩
    | 11, _ => exact ⟨_, rfl, hP 22 _ rfl⟩
    | 12, _ => exact ⟨_, rfl, hP 23 _ rfl⟩
    | 13, _ => exact ⟨_, rfl, hP 24 _ rfl⟩
    | 14, _ => exact ⟨_, rfl, hP 25 _ rfl⟩
    | 15, _ => exact ⟨_, rfl, hP 26 _ rfl⟩
    | 16, _ => exact ⟨_, rfl, hP 5 _ rfl⟩
    | 17, _ => exact ⟨_, rfl, hP 17 _ rfl⟩
    | 18, _ => exact ⟨_, rfl, (show H[la]? = some (vp_cell c2 (8, .inr (.inr (.inr (.inr (fun i => some (s1 i))))))) from hP 6 _ rfl).trans (congrArg some (cell_q (fun i hi => (by show some (s1 i) = some (adF h8 h9 t hg ca ai li la ov pl tl ta ro tm gr a1 a2 a3 a4 se re s1 s2 (8 * 0 + i)); unfold adF; rw [if_pos (by omega), show 8 * 0 + i = i by omega]))))⟩
    | 19, _ => exact ⟨_, rfl, (show H[ta]? = some (vp_cell c2 (8, .inr (.inr (.inr (.inr (fun i => some (s2 i))))))) from hP 18 _ rfl).trans (congrArg some (cell_q (fun i hi => (by show some (s2 i) = some (adF h8 h9 t hg ca ai li la ov pl tl ta ro tm gr a1 a2 a3 a4 se re s1 s2 (8 * 1 + i)); unfold adF; rw [if_neg (by omega), if_pos (by omega), show 8 * 1 + i - 8 = i by omega]))))⟩
    | 20, _ => exact ⟨_, rfl, hP 0 _ rfl⟩
    | 21, _ => exact ⟨_, rfl, hP 1 _ rfl⟩
    | 22, _ => exact ⟨_, rfl, hP 2 _ rfl⟩
    | 23, _ => exact ⟨_, rfl, hP 3 _ rfl⟩
    | 24, _ => exact ⟨_, rfl, hP 4 _ rfl⟩
    | 25, _ => exact ⟨_, rfl, hP 15 _ rfl⟩
    | 26, _ => exact ⟨_, rfl, hP 16 _ rfl⟩
    | 27, _ => exact ⟨_, rfl, hP 27 _ rfl⟩
    | 28, _ => exact ⟨_, rfl, hP 28 _ rfl⟩
    | 29, _ => exact ⟨_, rfl, hP 29 _ rfl⟩
    | 30, _ => exact ⟨_, rfl, hP 30 _ rfl⟩
    | 31, _ => exact ⟨_, rfl, hP 31 _ rfl⟩
    | 32, _ => exact ⟨_, rfl, hP 32 _ rfl⟩
    | 33, _ => exact ⟨_, rfl, hP 33 _ rfl⟩
    | 34, _ => exact ⟨_, rfl, hP 34 _ rfl⟩
    | 35, _ => exact ⟨_, rfl, hP 35 _ rfl⟩
    | 36, _ => exact ⟨_, rfl, hP 36 _ rfl⟩
    | n + 37, h => exact absurd h (by omega)
  refine ⟨(D, adF h8 h9 t hg ca ai li la ov pl tl ta ro tm gr a1 a2 a3 a4 se re s1 s2, c1, d6, c2), ⟨hK.sub [0, 9, 1] rfl, fun i j hi hj e => ?_, hN⟩, fun k q hq => ?_, fun q hq => ?_, rfl, rfl⟩
  · obtain ⟨E1, q1, -⟩ := key i hi
    obtain ⟨E2, q2, -⟩ := key j hj
    exact psL_inj i hi j hj (hD.1 _ _ _ _ q1 q2 e)
  · obtain ⟨hk, rfl⟩ := wl_in hq
    obtain ⟨E1, -, h1⟩ := key k hk
    exact h1
  · obtain ⟨k, hk, rfl⟩ := hq
    obtain ⟨E1, q1, -⟩ := key k hk
    exact hD.2 _ _ q1
set_option maxHeartbeats 8000000 in
set_option maxRecDepth 100000 in
/-- THE LAW, from its entry -/
theorem whole_start {p : Program} {e : Env} {s : State} {m : MethodId} {below : List Frame} {meth : Method} {c : Code} (l : Launch) (hflags : l.flags = flags0) {b L : Nat} {xs : Nat → Int32} (hL : L ≤ 2560) (C0 : lw_At p s m meth c b L xs) : W p l e room_1 s m #[Value.ref b] below meth c s.heap [] 0 0 (lw_Z below #[Value.ref b] s) (entryFrame m ([Value.ref b] : List Value).toArray 4) := by
  obtain ⟨hx, hb, hr, hml, hown, hts0, hX, hbl, hlocks, hgv⟩ := id C0
  have hb : c.code = cL_law := hb
  have hts : ∀ w ∈ wsL_law, w.before #[Value.ref b] s = true := fun w hw => hts0 w (wsL_law_in w hw)
  have CF : CallFix p m c cL_law 4 s #[Value.ref b] wsL_law RL := ⟨hx, hb, hml, hown, hts⟩
  have hA : ∀ q : Nat, s.heap.size ≤ q → AL s q := fun _ h => h
  obtain ⟨k0, i0, hKn0⟩ := u_known (C := RX0) (T := TX0) (N := 3) (n := 3) hts inlX0 (hts0 (.instantiable RX0 3) (by decide +kernel))
  obtain ⟨k1, i1, hKn1⟩ := u_known (C := RX1) (T := TX1) (N := 4) (n := 4) hts inlX1 (hts0 (.instantiable RX1 4) (by decide +kernel))
  obtain ⟨k2, i2, hKn2⟩ := u_known (C := RX2) (T := TX2) (N := 3) (n := 3) hts inlX2 (hts0 (.instantiable RX2 3) (by decide +kernel))
  obtain ⟨k3, i3, hKn3⟩ := u_known (C := RX3) (T := TX3) (N := 4) (n := 4) hts inlX3 (hts0 (.instantiable RX3 4) (by decide +kernel))
  obtain ⟨k4, i4, hKn4⟩ := u_known (C := RX4) (T := TX4) (N := 3) (n := 3) hts inlX4 (hts0 (.instantiable RX4 3) (by decide +kernel))
  obtain ⟨k5, i5, hKn5⟩ := u_known (C := RX5) (T := TX5) (N := 4) (n := 4) hts inlX5 (hts0 (.instantiable RX5 4) (by decide +kernel))
  obtain ⟨k6, i6, hKn6⟩ := u_known (C := RX6) (T := TX6) (N := 2) (n := 2) hts inlX6 (hts0 (.instantiable RX6 2) (by decide +kernel))
  obtain ⟨k7, i7, hKn7⟩ := u_known (C := RX7) (T := TX7) (N := 3) (n := 3) hts inlX7 (hts0 (.instantiable RX7 3) (by decide +kernel))
  obtain ⟨k8, i8, hKn8⟩ := u_known (C := RX8) (T := TX8) (N := 7) (n := 7) hts inlX8 (hts0 (.instantiable RX8 7) (by decide +kernel))
  obtain ⟨k9, i9, hKn9⟩ := u_known (C := RX9) (T := TX9) (N := 20) (n := 20) hts inlX9 (hts0 (.instantiable RX9 20) (by decide +kernel))
  obtain ⟨D, hKc⟩ : ∃ D : va_G, ∀ (k : Nat) (q : vw_C), vwCl[k]? = some q → u_Kn s q.1 q.2.1 q.2.2 (D.1 k) (D.2 k) := by
    refine ⟨(fun k => match k with | 0 => k0 | 1 => k1 | 2 => k2 | 3 => k3 | 4 => k4 | 5 => k5 | 6 => k6 | 7 => k7 | 8 => k8 | _ => k9, fun k => match k with | 0 => i0 | 1 => i1 | 2 => i2 | 3 => i3 | 4 => i4 | 5 => i5 | 6 => i6 | 7 => i7 | 8 => i8 | _ => i9), ?_⟩
    intro k q hq
    match k, hq with
    | 0, hq => cases hq; exact hKn0
    | 1, hq => cases hq; exact hKn1
    | 2, hq => cases hq; exact hKn2
    | 3, hq => cases hq; exact hKn3
    | 4, hq => cases hq; exact hKn4
    | 5, hq => cases hq; exact hKn5
    | 6, hq => cases hq; exact hKn6
    | 7, hq => cases hq; exact hKn7
    | 8, hq => cases hq; exact hKn8
    | 9, hq => cases hq; exact hKn9
    | k + 10, hq => simp [vwCl] at hq
  have hN : NW s := ⟨va_Nw.of rfl (hts0 (.methodLinkNest RX7 32 yX8_quotient RX8) (by decide +kernel)), va_Nw.of rfl (hts0 (.methodLinkNest RX5 22 yX8_quotient RX8) (by decide +kernel)), va_Nw.of rfl (hts0 (.methodLinkNest RX2 25 yX8_quotient RX8) (by decide +kernel)), va_Nw.of rfl (hts0 (.methodLinkNest RX6 50 yX8_quotient RX8) (by decide +kernel)), va_Nw.of rfl (hts0 (.methodLinkNest RX0 27 yX8_quotient RX8) (by decide +kernel))⟩
  have hKI : KI s := ⟨va_AO.of (hts0 (.arrayOver (.object RX5)) (by decide +kernel)), va_Nw.of rfl (hts0 (.methodLinkNest RX6 17 yX5_init RX8) (by decide +kernel)), va_Nw.of rfl (hts0 (.methodLinkNest RX8 39 yX2_init RX8) (by decide +kernel))⟩
  have hS : va_S (AL s) s.heap s.heap [] := va_S.rf
  have hK : va_K D vwCl [] s := ⟨hKc, fun k q h => by simp at h⟩
  have hP : va_P D vwCl [] s.heap := fun k q h => by simp at h
  have hD : va_D (AL s) [] := ⟨fun i j p q h => by simp at h, fun k q h => by simp at h⟩
  have hl := lv_entry ([.ref b]) (n := 4) (Nat.le_of_ble_eq_true rfl)
  rw [lg_entry_eq]
  generalize (lg_sl ([.ref b]) ++ List.replicate (4 - (lg_sl ([.ref b])).length) Slot.unset).toArray = ls at hl ⊢
  have hl : lv_has ls 4 [(0, .ref b)] := hl
  refine va_new (ci := 8) (fs := [.null, .null, .null, .null, .null, .null, .null]) (C := RX8) (T := TX8) (N := 7) hx hb hts inlX8 tyX8 tyX8_ok hown (hts0 (.classLink RL 7 RX8) (by decide +kernel)) (hts0 (.instantiable RX8 7) (by decide +kernel)) (hts0 (.initialized RX8) (by decide +kernel)) hK hP hD hS hA rfl (fun j hj => match j, hj with | 0, _ => rfl | 1, _ => rfl | 2, _ => rfl | 3, _ => rfl | 4, _ => rfl | 5, _ => rfl | 6, _ => rfl | n + 7, h => absurd h (by omega)) (Nat.le_of_ble_eq_true rfl) (Nat.le_of_ble_eq_true rfl) dL_law_0 (fun h8 H hP hD hS => ?_)
  have hP : va_P D vwCl [(h8, .inr (8, [.null, .null, .null, .null, .null, .null, .null]))] H := hP
  have hD : va_D (AL s) [(h8, .inr (8, [.null, .null, .null, .null, .null, .null, .null]))] := hD
  refine W.widen (k := 1) (n := 7) (by omega) (by omega) ?_
  refine lv_dup hx hb dL_law_3 rfl ?_
  refine i_goes (B := BX8 h8) (wr := []) hK hP hD hS hA 0 [] rfl rfl (by decide) (by decide) (va_runI (As := []) (rest := [.ref h8]) CF (c_X8_init l D h8 H.size) (cwI 0 hts gL_law_X8_init rfl rfl rfl (hts0 (.initialized RX8) (by decide +kernel)) (hts0 (.methodLink RL 9 yX8_init) (by decide +kernel)) (hts0 (.instanceMethod yX8_init) (by decide +kernel)) rfl (by decide +kernel) ⟨(Nat.le_of_ble_eq_true rfl), (Nat.le_of_ble_eq_true rfl)⟩) (i_pre hKI hK hP hD 0 rfl) rfl rfl hl.1 rfl (lv_room (Nat.le_of_ble_eq_true rfl)) dL_law_4 ⟨(Nat.le_of_ble_eq_true rfl), (Nat.le_of_ble_eq_true rfl)⟩) (fun w1 ty1 H locs hB hP hD hK hS => ?_)
  obtain ⟨t, hg, ca, ai, li, la, ov, pl, tl, ta, ro, tm, s1, s2, c1, c2, c3, c4, rfl, rfl⟩ := hB
  have hP : va_P D vwCl [(h8, .inr (8, [.ref t, .ref ca, .ref ai, .ref li, .ref ov, .ref pl, .ref ro])), (t, .inr (7, [.int 6, .int 10, .ref hg])), (hg, .inl (c1, 160, .inl (fun _ => 0))), (ca, .inr (1, [.int 1000, .int 3, .int 2, .int 0])), (ai, .inr (0, [.int 100, .int 0, .int 60])), (li, .inr (6, [.int 0, .ref la])), (la, .inl (c2, 8, .inr (.inr (.inr (.inr (fun i => some (s1 i))))))), ((s1 0), .inr (5, [.int 0, .int 0, .int 0, .int 0])), ((s1 1), .inr (5, [.int 0, .int 0, .int 0, .int 0])), ((s1 2), .inr (5, [.int 0, .int 0, .int 0, .int 0])), ((s1 3), .inr (5, [.int 0, .int 0, .int 0, .int 0])), ((s1 4), .inr (5, [.int 0, .int 0, .int 0, .int 0])), ((s1 5), .inr (5, [.int 0, .int 0, .int 0, .int 0])), ((s1 6), .inr (5, [.int 0, .int 0, .int 0, .int 0])), ((s1 7), .inr (5, [.int 0, .int 0, .int 0, .int 0])), (ov, .inr (2, [.int 0, .int 0, .int 0])), (pl, .inr (3, [.int 0, .int 0, .int 0, .ref tl])), (tl, .inr (6, [.int 0, .ref ta])), (ta, .inl (c3, 8, .inr (.inr (.inr (.inr (fun i => some (s2 i))))))), ((s2 0), .inr (5, [.int 0, .int 0, .int 0, .int 0])), ((s2 1), .inr (5, [.int 0, .int 0, .int 0, .int 0])), ((s2 2), .inr (5, [.int 0, .int 0, .int 0, .int 0])), ((s2 3), .inr (5, [.int 0, .int 0, .int 0, .int 0])), ((s2 4), .inr (5, [.int 0, .int 0, .int 0, .int 0])), ((s2 5), .inr (5, [.int 0, .int 0, .int 0, .int 0])), ((s2 6), .inr (5, [.int 0, .int 0, .int 0, .int 0])), ((s2 7), .inr (5, [.int 0, .int 0, .int 0, .int 0])), (ro, .inr (4, [.ref tm, .int 0, .int 0])), (tm, .inl (c4, 4096, .inl (fun _ => 0)))] H := hP
  have hD : va_D (AL s) [(h8, .inr (8, [.ref t, .ref ca, .ref ai, .ref li, .ref ov, .ref pl, .ref ro])), (t, .inr (7, [.int 6, .int 10, .ref hg])), (hg, .inl (c1, 160, .inl (fun _ => 0))), (ca, .inr (1, [.int 1000, .int 3, .int 2, .int 0])), (ai, .inr (0, [.int 100, .int 0, .int 60])), (li, .inr (6, [.int 0, .ref la])), (la, .inl (c2, 8, .inr (.inr (.inr (.inr (fun i => some (s1 i))))))), ((s1 0), .inr (5, [.int 0, .int 0, .int 0, .int 0])), ((s1 1), .inr (5, [.int 0, .int 0, .int 0, .int 0])), ((s1 2), .inr (5, [.int 0, .int 0, .int 0, .int 0])), ((s1 3), .inr (5, [.int 0, .int 0, .int 0, .int 0])), ((s1 4), .inr (5, [.int 0, .int 0, .int 0, .int 0])), ((s1 5), .inr (5, [.int 0, .int 0, .int 0, .int 0])), ((s1 6), .inr (5, [.int 0, .int 0, .int 0, .int 0])), ((s1 7), .inr (5, [.int 0, .int 0, .int 0, .int 0])), (ov, .inr (2, [.int 0, .int 0, .int 0])), (pl, .inr (3, [.int 0, .int 0, .int 0, .ref tl])), (tl, .inr (6, [.int 0, .ref ta])), (ta, .inl (c3, 8, .inr (.inr (.inr (.inr (fun i => some (s2 i))))))), ((s2 0), .inr (5, [.int 0, .int 0, .int 0, .int 0])), ((s2 1), .inr (5, [.int 0, .int 0, .int 0, .int 0])), ((s2 2), .inr (5, [.int 0, .int 0, .int 0, .int 0])), ((s2 3), .inr (5, [.int 0, .int 0, .int 0, .int 0])), ((s2 4), .inr (5, [.int 0, .int 0, .int 0, .int 0])), ((s2 5), .inr (5, [.int 0, .int 0, .int 0, .int 0])), ((s2 6), .inr (5, [.int 0, .int 0, .int 0, .int 0])), ((s2 7), .inr (5, [.int 0, .int 0, .int 0, .int 0])), (ro, .inr (4, [.ref tm, .int 0, .int 0])), (tm, .inl (c4, 4096, .inl (fun _ => 0)))] := hD
  have hK : va_K D vwCl [(c1, .int), (c2, .object RX5), (c3, .object RX5), (c4, .int)] s := hK
  refine W.widen (k := 29) (n := 4367) (by omega) (by omega) ?_
  refine lv_astore_n (lv' := [(1, .ref h8), (0, .ref b)]) hx hb dL_law_7 rfl hl (by decide) rfl (fun ls hl => ?_)
  refine va_new (ci := 9) (fs := [.int 0, .int 0, .int 0, .int 0, .int 0, .int 0, .int 0, .int 0, .int 0, .null, .int 0, .null, .null, .null, .null, .null, .int 0, .int 0, .int 0, .null]) (C := RX9) (T := TX9) (N := 20) hx hb hts inlX9 tyX9 tyX9_ok hown (hts0 (.classLink RL 10 RX9) (by decide +kernel)) (hts0 (.instantiable RX9 20) (by decide +kernel)) (hts0 (.initialized RX9) (by decide +kernel)) hK hP hD hS hA rfl (fun j hj => match j, hj with | 0, _ => rfl | 1, _ => rfl | 2, _ => rfl | 3, _ => rfl | 4, _ => rfl | 5, _ => rfl | 6, _ => rfl | 7, _ => rfl | 8, _ => rfl | 9, _ => rfl | 10, _ => rfl | 11, _ => rfl | 12, _ => rfl | 13, _ => rfl | 14, _ => rfl | 15, _ => rfl | 16, _ => rfl | 17, _ => rfl | 18, _ => rfl | 19, _ => rfl | n + 20, h => absurd h (by omega)) (Nat.le_of_ble_eq_true rfl) (Nat.le_of_ble_eq_true rfl) dL_law_8 (fun h9 H hP hD hS => ?_)
  have hP : va_P D vwCl [(h8, .inr (8, [.ref t, .ref ca, .ref ai, .ref li, .ref ov, .ref pl, .ref ro])), (t, .inr (7, [.int 6, .int 10, .ref hg])), (hg, .inl (c1, 160, .inl (fun _ => 0))), (ca, .inr (1, [.int 1000, .int 3, .int 2, .int 0])), (ai, .inr (0, [.int 100, .int 0, .int 60])), (li, .inr (6, [.int 0, .ref la])), (la, .inl (c2, 8, .inr (.inr (.inr (.inr (fun i => some (s1 i))))))), ((s1 0), .inr (5, [.int 0, .int 0, .int 0, .int 0])), ((s1 1), .inr (5, [.int 0, .int 0, .int 0, .int 0])), ((s1 2), .inr (5, [.int 0, .int 0, .int 0, .int 0])), ((s1 3), .inr (5, [.int 0, .int 0, .int 0, .int 0])), ((s1 4), .inr (5, [.int 0, .int 0, .int 0, .int 0])), ((s1 5), .inr (5, [.int 0, .int 0, .int 0, .int 0])), ((s1 6), .inr (5, [.int 0, .int 0, .int 0, .int 0])), ((s1 7), .inr (5, [.int 0, .int 0, .int 0, .int 0])), (ov, .inr (2, [.int 0, .int 0, .int 0])), (pl, .inr (3, [.int 0, .int 0, .int 0, .ref tl])), (tl, .inr (6, [.int 0, .ref ta])), (ta, .inl (c3, 8, .inr (.inr (.inr (.inr (fun i => some (s2 i))))))), ((s2 0), .inr (5, [.int 0, .int 0, .int 0, .int 0])), ((s2 1), .inr (5, [.int 0, .int 0, .int 0, .int 0])), ((s2 2), .inr (5, [.int 0, .int 0, .int 0, .int 0])), ((s2 3), .inr (5, [.int 0, .int 0, .int 0, .int 0])), ((s2 4), .inr (5, [.int 0, .int 0, .int 0, .int 0])), ((s2 5), .inr (5, [.int 0, .int 0, .int 0, .int 0])), ((s2 6), .inr (5, [.int 0, .int 0, .int 0, .int 0])), ((s2 7), .inr (5, [.int 0, .int 0, .int 0, .int 0])), (ro, .inr (4, [.ref tm, .int 0, .int 0])), (tm, .inl (c4, 4096, .inl (fun _ => 0))), (h9, .inr (9, [.int 0, .int 0, .int 0, .int 0, .int 0, .int 0, .int 0, .int 0, .int 0, .null, .int 0, .null, .null, .null, .null, .null, .int 0, .int 0, .int 0, .null]))] H := hP
  have hD : va_D (AL s) [(h8, .inr (8, [.ref t, .ref ca, .ref ai, .ref li, .ref ov, .ref pl, .ref ro])), (t, .inr (7, [.int 6, .int 10, .ref hg])), (hg, .inl (c1, 160, .inl (fun _ => 0))), (ca, .inr (1, [.int 1000, .int 3, .int 2, .int 0])), (ai, .inr (0, [.int 100, .int 0, .int 60])), (li, .inr (6, [.int 0, .ref la])), (la, .inl (c2, 8, .inr (.inr (.inr (.inr (fun i => some (s1 i))))))), ((s1 0), .inr (5, [.int 0, .int 0, .int 0, .int 0])), ((s1 1), .inr (5, [.int 0, .int 0, .int 0, .int 0])), ((s1 2), .inr (5, [.int 0, .int 0, .int 0, .int 0])), ((s1 3), .inr (5, [.int 0, .int 0, .int 0, .int 0])), ((s1 4), .inr (5, [.int 0, .int 0, .int 0, .int 0])), ((s1 5), .inr (5, [.int 0, .int 0, .int 0, .int 0])), ((s1 6), .inr (5, [.int 0, .int 0, .int 0, .int 0])), ((s1 7), .inr (5, [.int 0, .int 0, .int 0, .int 0])), (ov, .inr (2, [.int 0, .int 0, .int 0])), (pl, .inr (3, [.int 0, .int 0, .int 0, .ref tl])), (tl, .inr (6, [.int 0, .ref ta])), (ta, .inl (c3, 8, .inr (.inr (.inr (.inr (fun i => some (s2 i))))))), ((s2 0), .inr (5, [.int 0, .int 0, .int 0, .int 0])), ((s2 1), .inr (5, [.int 0, .int 0, .int 0, .int 0])), ((s2 2), .inr (5, [.int 0, .int 0, .int 0, .int 0])), ((s2 3), .inr (5, [.int 0, .int 0, .int 0, .int 0])), ((s2 4), .inr (5, [.int 0, .int 0, .int 0, .int 0])), ((s2 5), .inr (5, [.int 0, .int 0, .int 0, .int 0])), ((s2 6), .inr (5, [.int 0, .int 0, .int 0, .int 0])), ((s2 7), .inr (5, [.int 0, .int 0, .int 0, .int 0])), (ro, .inr (4, [.ref tm, .int 0, .int 0])), (tm, .inl (c4, 4096, .inl (fun _ => 0))), (h9, .inr (9, [.int 0, .int 0, .int 0, .int 0, .int 0, .int 0, .int 0, .int 0, .int 0, .null, .int 0, .null, .null, .null, .null, .null, .int 0, .int 0, .int 0, .null]))] := hD
  refine W.widen (k := 30) (n := 4387) (by omega) (by omega) ?_
  refine lv_dup hx hb dL_law_11 rfl ?_
  refine i_goes (B := BX9 h9) (wr := [(h8, .inr (8, [.ref t, .ref ca, .ref ai, .ref li, .ref ov, .ref pl, .ref ro])), (t, .inr (7, [.int 6, .int 10, .ref hg])), (hg, .inl (c1, 160, .inl (fun _ => 0))), (ca, .inr (1, [.int 1000, .int 3, .int 2, .int 0])), (ai, .inr (0, [.int 100, .int 0, .int 60])), (li, .inr (6, [.int 0, .ref la])), (la, .inl (c2, 8, .inr (.inr (.inr (.inr (fun i => some (s1 i))))))), ((s1 0), .inr (5, [.int 0, .int 0, .int 0, .int 0])), ((s1 1), .inr (5, [.int 0, .int 0, .int 0, .int 0])), ((s1 2), .inr (5, [.int 0, .int 0, .int 0, .int 0])), ((s1 3), .inr (5, [.int 0, .int 0, .int 0, .int 0])), ((s1 4), .inr (5, [.int 0, .int 0, .int 0, .int 0])), ((s1 5), .inr (5, [.int 0, .int 0, .int 0, .int 0])), ((s1 6), .inr (5, [.int 0, .int 0, .int 0, .int 0])), ((s1 7), .inr (5, [.int 0, .int 0, .int 0, .int 0])), (ov, .inr (2, [.int 0, .int 0, .int 0])), (pl, .inr (3, [.int 0, .int 0, .int 0, .ref tl])), (tl, .inr (6, [.int 0, .ref ta])), (ta, .inl (c3, 8, .inr (.inr (.inr (.inr (fun i => some (s2 i))))))), ((s2 0), .inr (5, [.int 0, .int 0, .int 0, .int 0])), ((s2 1), .inr (5, [.int 0, .int 0, .int 0, .int 0])), ((s2 2), .inr (5, [.int 0, .int 0, .int 0, .int 0])), ((s2 3), .inr (5, [.int 0, .int 0, .int 0, .int 0])), ((s2 4), .inr (5, [.int 0, .int 0, .int 0, .int 0])), ((s2 5), .inr (5, [.int 0, .int 0, .int 0, .int 0])), ((s2 6), .inr (5, [.int 0, .int 0, .int 0, .int 0])), ((s2 7), .inr (5, [.int 0, .int 0, .int 0, .int 0])), (ro, .inr (4, [.ref tm, .int 0, .int 0])), (tm, .inl (c4, 4096, .inl (fun _ => 0)))]) hK hP hD hS hA 29 [0, 1, 2, 3, 4, 5, 6, 7, 8, 9, 10, 11, 12, 13, 14, 15, 16, 17, 18, 19, 20, 21, 22, 23, 24, 25, 26, 27, 28] rfl rfl (by decide) (by decide) (va_runI (As := []) (rest := [.ref h9]) CF (c_X9_init l D h9 H.size) (cwI 0 hts gL_law_X9_init rfl rfl rfl (hts0 (.initialized RX9) (by decide +kernel)) (hts0 (.methodLink RL 12 yX9_init) (by decide +kernel)) (hts0 (.instanceMethod yX9_init) (by decide +kernel)) rfl (by decide +kernel) ⟨(Nat.le_of_ble_eq_true rfl), (Nat.le_of_ble_eq_true rfl)⟩) (i_pre hKI hK hP hD 29 rfl) rfl rfl hl.1 rfl (lv_room (Nat.le_of_ble_eq_true rfl)) dL_law_12 ⟨(Nat.le_of_ble_eq_true rfl), (Nat.le_of_ble_eq_true rfl)⟩) (fun w1 ty1 H locs hB hP hD hK hS => ?_)
  obtain ⟨gr, a1, a2, a3, a4, se, re, d1, d2, d3, d4, d5, d6, d7, rfl, rfl⟩ := hB
  refine W.widen (k := 37) (n := 34275) (by omega) (by omega) ?_
  obtain ⟨G, hKK, hH, hfr, e20, e29⟩ := gather h8 h9 t hg ca ai li la ov pl tl ta ro tm gr a1 a2 a3 a4 se re s1 s2 c1 c2 c3 c4 d1 d2 d3 d4 d5 d6 d7 hK hP hD hN
  refine lv_astore_n (lv' := [(2, .ref h9), (1, .ref h8), (0, .ref b)]) hx hb dL_law_15 rfl hl (by decide) rfl (fun ls hl => ?_)
  refine lv_iconst (v := 0) hx hb dL_law_16 (by decide) ?_
  refine lv_istore_n (lv' := [(3, .int 0), (2, .ref h9), (1, .ref h8), (0, .ref b)]) hx hb dL_law_17 rfl hl (by decide) rfl (fun ls hl => ?_)
  refine law_loop hL C0 hKK hfr (L + 1) 0 (Nat.zero_le L) (by omega) sg0 H locs ls sg0_inv hH hS ?_
  rw [e20, e29]
  exact lv_sub hl [3, 2, 1, 0] rfl
