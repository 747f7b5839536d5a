/-! ===== between two calls: the class's cells and the reference's tell of one survey ===== -/
def IC (σ : Sg) (R C n : Nat) (sq : Nat → S4) (sp : S4) (g : Nat → Int32) (cm : Cm) (x y z : Int32) : Prop := CA σ R C n sq ∧ AS σ sp ∧ σ 22 = g ∧ cmC σ = cm ∧ σ 24 0 = x ∧ σ 24 1 = y ∧ σ 24 2 = z
def IM (σ : Sg) (R C n : Nat) (sq : Nat → S4) (sp : S4) (g : Nat → Int32) (cm : Cm) (x y z : Int32) : Prop := MA σ R C n sq ∧ AM σ sp ∧ σ 30 = g ∧ cmM σ = cm ∧ σ 29 6 = x ∧ σ 29 7 = y ∧ σ 29 8 = z
def INV (σ : Sg) : Prop := ∃ R C n sq sp g cm x y z, IC σ R C n sq sp g cm x y z ∧ IM σ R C n sq sp g cm x y z
def lo (σ σ1 : Sg) : Prop := ∀ k, k < 29 → σ1 k = σ k
def hi (σ σ1 : Sg) : Prop := ∀ k, 29 ≤ k → σ1 k = σ k
theorem LSt_of {σ σ1 : Sg} {n : Nat} {sq : Nat → S4} (h : LSt σ 0 n sq) (h16 : σ1 16 0 = σ 16 0) (hs : ∀ k, k < 8 → σ1 k = σ k) : LSt σ1 0 n sq := by
  refine ⟨h16.trans h.1, h.2.1, fun i hi => ?_⟩
  have h1 := h.2.2 i hi
  have h8 := h.2.1
  unfold VS at *
  rw [hs (8 * 0 + i) (by omega)]
  exact h1
theorem IC_of {σ σ1 : Sg} {R C n : Nat} {sq : Nat → S4} {sp : S4} {g : Nat → Int32} {cm : Cm} {x y z : Int32} (h : IC σ R C n sq sp g cm x y z) (hk : ∀ k, (k < 8 ∨ k = 16 ∨ (21 ≤ k ∧ k ≤ 24)) → σ1 k = σ k) : IC σ1 R C n sq sp g cm x y z := by
  have k21 := hk 21 (by omega)
  have k22 := hk 22 (by omega)
  have k23 := hk 23 (by omega)
  have k24 := hk 24 (by omega)
  obtain ⟨⟨a1, a2, a3, a4, a5, a6, a7, a8⟩, h2, h3, h4, h5, h6, h7⟩ := h
  refine ⟨⟨by rw [k21]; exact a1, by rw [k21]; exact a2, a3, a4, a5, a6, by rw [k22, k23]; exact a7, LSt_of a8 (by rw [hk 16 (by omega)]) (fun k hk8 => hk k (by omega))⟩, ?_, by rw [k22]; exact h3, by unfold cmC; rw [k23]; exact h4, by rw [k24]; exact h5, by rw [k24]; exact h6, by rw [k24]; exact h7⟩
  unfold AS at *
  rw [k24]
  exact h2
theorem MS_of {σ σ1 : Sg} {n : Nat} {sq : Nat → S4} (h : MS σ n sq) (h10 : σ1 29 10 = σ 29 10) (hk : ∀ k, 31 ≤ k → k ≤ 34 → σ1 k = σ k) : MS σ1 n sq := by
  refine ⟨h10.trans h.1, h.2.1, fun i hi => ?_⟩
  have h1 := h.2.2 i hi
  unfold MV at *
  rw [hk 31 (by omega) (by omega), hk 32 (by omega) (by omega), hk 33 (by omega) (by omega), hk 34 (by omega) (by omega)]
  exact h1
theorem IM_of {σ σ1 : Sg} {R C n : Nat} {sq : Nat → S4} {sp : S4} {g : Nat → Int32} {cm : Cm} {x y z : Int32} (h : IM σ R C n sq sp g cm x y z) (h29 : ∀ f, f ≤ 10 → σ1 29 f = σ 29 f) (hk : ∀ k, 30 ≤ k → k ≤ 34 → σ1 k = σ k) : IM σ1 R C n sq sp g cm x y z := by
  obtain ⟨⟨a1, a2, a3, a4, a5, a6, a7⟩, h2, h3, h4, h5, h6, h7⟩ := h
  refine ⟨⟨by rw [h29 0 (by omega)]; exact a1, by rw [h29 1 (by omega)]; exact a2, a3, a4, a5, a6, MS_of a7 (h29 10 (by omega)) (fun k h1 h2 => hk k (by omega) h2)⟩, ?_, by rw [hk 30 (by omega) (by omega)]; exact h3, by unfold cmM; rw [h29 2 (by omega), h29 3 (by omega), h29 4 (by omega), h29 5 (by omega)]; exact h4, by rw [h29 6 (by omega)]; exact h5, by rw [h29 7 (by omega)]; exact h6, by rw [h29 8 (by omega)]; exact h7⟩
  unfold AM at *
  rw [h29 6 (by omega), h29 7 (by omega), h29 8 (by omega)]
  exact h2
theorem IM_hi {σ σ1 : Sg} {R C n : Nat} {sq : Nat → S4} {sp : S4} {g : Nat → Int32} {cm : Cm} {x y z : Int32} (h : IM σ R C n sq sp g cm x y z) (hk : hi σ σ1) : IM σ1 R C n sq sp g cm x y z := IM_of h (fun f _ => by rw [hk 29 (by omega)]) (fun k h1 _ => hk k (by omega))
theorem IC_lo {σ σ1 : Sg} {R C n : Nat} {sq : Nat → S4} {sp : S4} {g : Nat → Int32} {cm : Cm} {x y z : Int32} (h : IC σ R C n sq sp g cm x y z) (hk : lo σ σ1) : IC σ1 R C n sq sp g cm x y z := IC_of h (fun k h1 => hk k (by omega))
theorem hi_u2 {σ : Sg} {k j : Nat} {v : Int32} (h : k < 29) : hi σ (u2 σ k j v) := fun q hq => u2_n _ _ _ (by omega)
theorem hi_up {σ : Sg} {k : Nat} {f : Nat → Int32} (h : k < 29) : hi σ (va_up σ k f) := fun q hq => up_n _ _ (by omega)
theorem lo_u2 {σ : Sg} {k j : Nat} {v : Int32} (h : 29 ≤ k) : lo σ (u2 σ k j v) := fun q hq => u2_n _ _ _ (by omega)
theorem lo_up {σ : Sg} {k : Nat} {f : Nat → Int32} (h : 29 ≤ k) : lo σ (va_up σ k f) := fun q hq => up_n _ _ (by omega)
theorem hi.tr {a b c : Sg} (h1 : hi a b) (h2 : hi b c) : hi a c := fun k hk => (h2 k hk).trans (h1 k hk)
theorem lo.tr {a b c : Sg} (h1 : lo a b) (h2 : lo b c) : lo a c := fun k hk => (h2 k hk).trans (h1 k hk)
theorem hi_rf (a : Sg) : hi a a := fun _ _ => rfl
theorem lo_rf (a : Sg) : lo a a := fun _ _ => rfl
/-- the two sides of a call that changes nothing of the survey -/
theorem inv_same {σ1 σ2 : Sg} {R C n : Nat} {sq : Nat → S4} {sp : S4} {g : Nat → Int32} {cm : Cm} {x y z : Int32} (h1 : IC σ1 R C n sq sp g cm x y z) (h2 : IM σ2 R C n sq sp g cm x y z) (hl : lo σ1 σ2) : INV σ2 := ⟨R, C, n, sq, sp, g, cm, x, y, z, IC_lo h1 hl, h2⟩
theorem isW_c {x : Int32} {a b : Int32} (h : isW x a b = true) : a ≤ x ∧ x ≤ b := by
  unfold isW at h
  simp only [Bool.and_eq_true, Bool.not_eq_true', decide_eq_false_iff_not] at h
  exact ⟨Int32.not_lt.mp h.1, Int32.not_lt.mp h.2⟩
/-! resize -/
theorem zr_in (g : Nat → Int32) {j : Nat} (h : j < 160) : zr g 160 j = 0 := by unfold zr; rw [if_pos h]
theorem lc_resize {σ : Sg} {R C n : Nat} {sq : Nat → S4} {sp : S4} {g : Nat → Int32} {cm : Cm} {x y z : Int32} (h : IC σ R C n sq sp g cm x y z) {r c : Nat} (hr : 3 ≤ r) (hr2 : r ≤ 10) (hc : 4 ≤ c) (hc2 : c ≤ 16) : IC (u2 (va_up (u2 (u2 σ 21 0 (nI r)) 21 1 (nI c)) 22 (zr (σ 22) 160)) 16 0 0) r c 0 sq sp (zr g 160) cm x y z := by
  obtain ⟨⟨a1, a2, a3, a4, a5, a6, a7, a8⟩, h2, h3, h4, h5, h6, h7⟩ := h
  refine ⟨⟨rfl, rfl, hr, hr2, hc, hc2, ⟨fun j hj => ?_, a7.2⟩, rfl, by omega, fun i hi => by omega⟩, h2, ?_, h4, h5, h6, h7⟩
  · show 0 ≤ zr (σ 22) 160 j ∧ zr (σ 22) 160 j ≤ 999
    rw [zr_in _ hj]; decide
  · show zr (σ 22) 160 = _
    rw [h3]
theorem lm_resize {σ : Sg} {R C n : Nat} {sq : Nat → S4} {sp : S4} {g : Nat → Int32} {cm : Cm} {x y z : Int32} (h : IM σ R C n sq sp g cm x y z) {r c : Nat} (hr : 3 ≤ r) (hr2 : r ≤ 10) (hc : 4 ≤ c) (hc2 : c ≤ 16) : IM (va_up (u2 (u2 (u2 σ 29 0 (nI r)) 29 1 (nI c)) 29 10 0) 30 (zr (σ 30) 160)) r c 0 sq sp (zr g 160) cm x y z := by
  obtain ⟨⟨a1, a2, a3, a4, a5, a6, a7⟩, h2, h3, h4, h5, h6, h7⟩ := h
  refine ⟨⟨rfl, rfl, hr, hr2, hc, hc2, rfl, by omega, fun i hi => by omega⟩, h2, ?_, h4, h5, h6, h7⟩
  show zr (σ 30) 160 = _
  rw [h3]
/-! one height -/
theorem lc_grid {σ : Sg} {R C n : Nat} {sq : Nat → S4} {sp : S4} {g : Nat → Int32} {cm : Cm} {x y z : Int32} (h : IC σ R C n sq sp g cm x y z) {g' : Nat → Int32} (hg : ∀ j, j < 160 → 0 ≤ g' j ∧ g' j ≤ 999) : IC (va_up σ 22 g') R C n sq sp g' cm x y z := by
  obtain ⟨⟨a1, a2, a3, a4, a5, a6, a7, a8⟩, h2, h3, h4, h5, h6, h7⟩ := h
  refine ⟨⟨a1, a2, a3, a4, a5, a6, ⟨hg, a7.2⟩, LSt_of a8 rfl (fun k hk => up_n _ _ (by omega))⟩, h2, rfl, h4, h5, h6, h7⟩
theorem lm_grid {σ : Sg} {R C n : Nat} {sq : Nat → S4} {sp : S4} {g : Nat → Int32} {cm : Cm} {x y z : Int32} (h : IM σ R C n sq sp g cm x y z) (g' : Nat → Int32) : IM (va_up σ 30 g') R C n sq sp g' cm x y z := by
  obtain ⟨⟨a1, a2, a3, a4, a5, a6, a7⟩, h2, h3, h4, h5, h6, h7⟩ := h
  exact ⟨⟨a1, a2, a3, a4, a5, a6, MS_of a7 rfl (fun k h1 h2 => up_n _ _ (by omega))⟩, h2, rfl, h4, h5, h6, h7⟩
theorem rz_hB {C row col rad : Nat} {ht : Int32} {g : Nat → Int32} (h1 : 1 ≤ ht ∧ ht ≤ 999) (hrad : rad ≤ 5) (hg : ∀ j, j < 160 → 0 ≤ g j ∧ g j ≤ 999) (m : Nat) : ∀ j, j < 160 → 0 ≤ (rzS C row col rad ht g m).1 j ∧ (rzS C row col rad ht g m).1 j ≤ 999 := by
  induction m with
  | zero => exact hg
  | succ m ih =>
    intro j hj
    simp only [rzS]
    split
    · rename_i hd
      dsimp only
      by_cases e : j = 16 * (m / C) + m % C
      · rw [← e, up_s]
        have hb := ih j hj
        have hq : 0 ≤ ht * nI (rad + 1 - mx (ad1 (m / C) row) (ad1 (m % C) col)) / nI (rad + 1) ∧ ht * nI (rad + 1 - mx (ad1 (m / C) row) (ad1 (m % C) col)) / nI (rad + 1) ≤ 6000 := by
          obtain ⟨t, ht1, ht2⟩ := nI_of (x := ht) (by have := h1.1; grind)
          have ht3 : t ≤ 999 := by
            have := h1.2
            rw [ht2] at this
            exact (nI_leI (b := 999) ht1 (by omega)).mp this
          have hs : rad + 1 - mx (ad1 (m / C) row) (ad1 (m % C) col) ≤ 6 := by omega
          generalize rad + 1 - mx (ad1 (m / C) row) (ad1 (m % C) col) = k at hs ⊢
          have hk : t * k ≤ 999 * 6 := Nat.mul_le_mul ht3 hs
          rw [ht2, pk_mul, pk_div (by omega) (by omega) (by omega)]
          have hd2 := Nat.div_le_self (t * k) (rad + 1)
          exact ⟨nI_pos' (by omega), (nI_leI (b := 6000) (by omega) (by omega)).mpr (by omega)⟩
        unfold rzV
        revert hb hq
        generalize (rzS C row col rad ht g m).1 j = u
        generalize ht * nI (rad + 1 - mx (ad1 (m / C) row) (ad1 (m % C) col)) / nI (rad + 1) = v
        intro hb hq
        grind
      · rw [up_n _ _ e]; exact ih j hj
    · exact ih j hj
/-! camera and speeds -/
theorem lc_cam {σ : Sg} {R C n : Nat} {sq : Nat → S4} {sp : S4} {g : Nat → Int32} {cm : Cm} {x y z : Int32} (h : IC σ R C n sq sp g cm x y z) (f : Nat → Int32) (hf : 100 ≤ f 0 ∧ f 0 ≤ 5000) : IC (va_up σ 23 f) R C n sq sp g (f 0, f 1, f 2, f 3) x y z := by
  obtain ⟨⟨a1, a2, a3, a4, a5, a6, a7, a8⟩, h2, h3, h4, h5, h6, h7⟩ := h
  exact ⟨⟨a1, a2, a3, a4, a5, a6, ⟨a7.1, hf⟩, LSt_of a8 rfl (fun k hk => up_n _ _ (by omega))⟩, h2, h3, rfl, h5, h6, h7⟩
theorem lm_cam {σ : Sg} {R C n : Nat} {sq : Nat → S4} {sp : S4} {g : Nat → Int32} {cm : Cm} {x y z : Int32} (h : IM σ R C n sq sp g cm x y z) (f : Nat → Int32) (hf : ∀ j, j ≠ 2 → j ≠ 3 → j ≠ 4 → j ≠ 5 → f j = σ 29 j) : IM (va_up σ 29 f) R C n sq sp g (f 2, f 3, f 4, f 5) x y z := by
  obtain ⟨⟨a1, a2, a3, a4, a5, a6, a7⟩, h2, h3, h4, h5, h6, h7⟩ := h
  have q0 := hf 0 (by omega) (by omega) (by omega) (by omega)
  have q1 := hf 1 (by omega) (by omega) (by omega) (by omega)
  have q6 := hf 6 (by omega) (by omega) (by omega) (by omega)
  have q7 := hf 7 (by omega) (by omega) (by omega) (by omega)
  have q8 := hf 8 (by omega) (by omega) (by omega) (by omega)
  have q10 := hf 10 (by omega) (by omega) (by omega) (by omega)
  refine ⟨⟨q0.trans a1, q1.trans a2, a3, a4, a5, a6, MS_of a7 q10 (fun k h1 h2 => up_n _ _ (by omega))⟩, ?_, h3, rfl, q6.trans h5, q7.trans h6, q8.trans h7⟩
  show f 6 = _ ∧ f 8 = _ ∧ f 6 + f 7 = _ ∧ f 6 - f 7 = _ ∧ _
  rw [q6, q7, q8]
  exact h2
theorem sp_of {x y z : Int32} (hx : 50 ≤ x ∧ x ≤ 300) (hy : -40 ≤ y ∧ y ≤ 40) (hz : 0 ≤ z ∧ z ≤ 500) : ∃ sp : S4, x = nI sp.1 ∧ z = nI sp.2.1 ∧ x + y = nI sp.2.2.1 ∧ x - y = nI sp.2.2.2 ∧ okP sp := by
  obtain ⟨a, ha, rfl⟩ := nI_of (x := x) (by grind)
  obtain ⟨c, hc, rfl⟩ := nI_of (x := z) (by grind)
  obtain ⟨e, he, h1⟩ := nI_of (x := nI a + y) (by grind)
  obtain ⟨w, hw, h2⟩ := nI_of (x := nI a - y) (by grind)
  refine ⟨(a, c, e, w), rfl, rfl, h1, h2, ?_⟩
  have b1 : 50 ≤ a := (nI_leI (a := 50) (by omega) ha).mp hx.1
  have b2 : a ≤ 300 := (nI_leI (b := 300) ha (by omega)).mp hx.2
  have b3 : c ≤ 500 := (nI_leI (b := 500) hc (by omega)).mp hz.2
  have b4 : 10 ≤ e := (nI_leI (a := 10) (by omega) he).mp (by rw [← h1]; show (10 : Int32) ≤ _; grind)
  have b5 : e ≤ 340 := (nI_leI (b := 340) he (by omega)).mp (by rw [← h1]; show _ ≤ (340 : Int32); grind)
  have b6 : 10 ≤ w := (nI_leI (a := 10) (by omega) hw).mp (by rw [← h2]; show (10 : Int32) ≤ _; grind)
  have b7 : w ≤ 340 := (nI_leI (b := 340) hw (by omega)).mp (by rw [← h2]; show _ ≤ (340 : Int32); grind)
  exact ⟨b1, b2, b3, b4, b5, b6, b7⟩
theorem lc_spd {σ : Sg} {R C n : Nat} {sq : Nat → S4} {sp sp' : S4} {g : Nat → Int32} {cm : Cm} {x y z x' y' z' : Int32} (h : IC σ R C n sq sp g cm x y z) (hs : x' = nI sp'.1 ∧ z' = nI sp'.2.1 ∧ x' + y' = nI sp'.2.2.1 ∧ x' - y' = nI sp'.2.2.2 ∧ okP sp') : IC (u2 (u2 (u2 σ 24 0 x') 24 1 y') 24 2 z') R C n sq sp' g cm x' y' z' := by
  obtain ⟨⟨a1, a2, a3, a4, a5, a6, a7, a8⟩, h2, h3, h4, h5, h6, h7⟩ := h
  exact ⟨⟨a1, a2, a3, a4, a5, a6, a7, LSt_of a8 rfl (fun k hk => by rw [u2_n _ _ _ (by omega), u2_n _ _ _ (by omega), u2_n _ _ _ (by omega)])⟩, hs, h3, h4, rfl, rfl, rfl⟩
theorem lm_spd {σ : Sg} {R C n : Nat} {sq : Nat → S4} {sp sp' : S4} {g : Nat → Int32} {cm : Cm} {x y z x' y' z' : Int32} (h : IM σ R C n sq sp g cm x y z) (hs : x' = nI sp'.1 ∧ z' = nI sp'.2.1 ∧ x' + y' = nI sp'.2.2.1 ∧ x' - y' = nI sp'.2.2.2 ∧ okP sp') : IM (u2 (u2 (u2 σ 29 6 x') 29 7 y') 29 8 z') R C n sq sp' g cm x' y' z' := by
  obtain ⟨⟨a1, a2, a3, a4, a5, a6, a7⟩, h2, h3, h4, h5, h6, h7⟩ := h
  exact ⟨⟨a1, a2, a3, a4, a5, a6, MS_of a7 rfl (fun k h1 h2 => by rw [u2_n _ _ _ (by omega), u2_n _ _ _ (by omega), u2_n _ _ _ (by omega)])⟩, hs, h3, h4, rfl, rfl, rfl⟩
/-! strips -/
def adS (sq : Nat → S4) (n : Nat) (q : S4) : Nat → S4 := fun i => if i = n then q else sq i
def rmQ (sq : Nat → S4) (j : Nat) : Nat → S4 := fun i => if i < j then sq i else sq (i + 1)
theorem lc_add {σ : Sg} {R C n : Nat} {sq : Nat → S4} {sp : S4} {g : Nat → Int32} {cm : Cm} {x y z : Int32} (h : IC σ R C n sq sp g cm x y z) (hn : n < 8) {q : S4} (hq : okS q) : IC (addF σ 0 n (nI q.1) (nI q.2.1) (nI q.2.2.1) (nI q.2.2.2)) R C (n + 1) (adS sq n q) sp g cm x y z := by
  have hk : ∀ k, k ≠ n → k ≠ 16 → addF σ 0 n (nI q.1) (nI q.2.1) (nI q.2.2.1) (nI q.2.2.2) k = σ k := fun k h1 h2 => addF_n (by omega) (by omega)
  obtain ⟨⟨a1, a2, a3, a4, a5, a6, a7, a8⟩, h2, h3, h4, h5, h6, h7⟩ := h
  have k21 := hk 21 (by omega) (by omega)
  have k22 := hk 22 (by omega) (by omega)
  have k23 := hk 23 (by omega) (by omega)
  have k24 := hk 24 (by omega) (by omega)
  refine ⟨⟨by rw [k21]; exact a1, by rw [k21]; exact a2, a3, a4, a5, a6, by rw [k22, k23]; exact a7, addF_c σ 0 n _ _ _ _, by omega, fun i hi => ?_⟩, ?_, by rw [k22]; exact h3, by unfold cmC; rw [k23]; exact h4, by rw [k24]; exact h5, by rw [k24]; exact h6, by rw [k24]; exact h7⟩
  · by_cases e : i = n
    · subst e
      obtain ⟨e0, e1, e2, e3⟩ := addF_s (σ := σ) (b := 0) (by decide) hn (nI q.1) (nI q.2.1) (nI q.2.2.1) (nI q.2.2.2)
      unfold adS VS
      rw [if_pos rfl]
      exact ⟨e0, e1, e2, e3, hq⟩
    · unfold adS
      rw [if_neg e]
      have := a8.2.2 i (by omega)
      unfold VS at *
      rw [hk (8 * 0 + i) (by omega) (by omega)]
      exact this
  · unfold AS at *
    rw [k24]
    exact h2
theorem lm_add {σ : Sg} {R C n : Nat} {sq : Nat → S4} {sp : S4} {g : Nat → Int32} {cm : Cm} {x y z : Int32} (h : IM σ R C n sq sp g cm x y z) (hn : n < 8) {q : S4} (hq : okS q) : IM (mput σ n (nI q.1) (nI q.2.1) (nI q.2.2.1) (nI q.2.2.2)) R C (n + 1) (adS sq n q) sp g cm x y z := by
  have h30 : mput σ n (nI q.1) (nI q.2.1) (nI q.2.2.1) (nI q.2.2.2) 30 = σ 30 := mput_n (by omega) (by omega)
  have hf : ∀ f, f ≠ 10 → mput σ n (nI q.1) (nI q.2.1) (nI q.2.2.1) (nI q.2.2.2) 29 f = σ 29 f := fun f hf => mput_f hf
  obtain ⟨⟨a1, a2, a3, a4, a5, a6, a7⟩, h2, h3, h4, h5, h6, h7⟩ := h
  refine ⟨⟨by rw [hf 0 (by omega)]; exact a1, by rw [hf 1 (by omega)]; exact a2, a3, a4, a5, a6, rfl, by omega, fun i hi => ?_⟩, ?_, by rw [h30]; exact h3, by unfold cmM; rw [hf 2 (by omega), hf 3 (by omega), hf 4 (by omega), hf 5 (by omega)]; exact h4, by rw [hf 6 (by omega)]; exact h5, by rw [hf 7 (by omega)]; exact h6, by rw [hf 8 (by omega)]; exact h7⟩
  · by_cases e : i = n
    · subst e
      unfold adS MV
      rw [if_pos rfl]
      refine ⟨?_, ?_, ?_, ?_, hq⟩ <;> simp [mput, u2, va_up]
    · unfold adS
      rw [if_neg e]
      have := a7.2.2 i (by omega)
      unfold MV at *
      have key : ∀ k, 31 ≤ k → k ≤ 34 → mput σ n (nI q.1) (nI q.2.1) (nI q.2.2.1) (nI q.2.2.2) k i = σ k i := by
        intro k g1 g2
        have : k = 31 ∨ k = 32 ∨ k = 33 ∨ k = 34 := by omega
        rcases this with rfl | rfl | rfl | rfl <;> simp [mput, u2, va_up, e]
      rw [key 31 (by omega) (by omega), key 32 (by omega) (by omega), key 33 (by omega) (by omega), key 34 (by omega) (by omega)]
      exact this
  · unfold AM at *
    rw [hf 6 (by omega), hf 7 (by omega), hf 8 (by omega)]
    exact h2
theorem lc_rem {σ : Sg} {R C n : Nat} {sq : Nat → S4} {sp : S4} {g : Nat → Int32} {cm : Cm} {x y z : Int32} (h : IC σ R C n sq sp g cm x y z) {j : Nat} (hj : j < n) : IC (u2 (rmS σ 0 j (n - 1)) 16 0 (nI (n - 1))) R C (n - 1) (rmQ sq j) sp g cm x y z := by
  have hn8 := h.1.2.2.2.2.2.2.2.2.1
  have hk : ∀ k, 8 ≤ k → k ≠ 16 → u2 (rmS σ 0 j (n - 1)) 16 0 (nI (n - 1)) k = σ k := fun k h1 h2 => by rw [u2_n _ _ _ h2]; exact rmS_at σ 0 j (by omega)
  obtain ⟨⟨a1, a2, a3, a4, a5, a6, a7, a8⟩, h2, h3, h4, h5, h6, h7⟩ := h
  have k21 := hk 21 (by omega) (by omega)
  have k22 := hk 22 (by omega) (by omega)
  have k23 := hk 23 (by omega) (by omega)
  have k24 := hk 24 (by omega) (by omega)
  refine ⟨⟨by rw [k21]; exact a1, by rw [k21]; exact a2, a3, a4, a5, a6, by rw [k22, k23]; exact a7, u2_ss _ _ _ _, by omega, fun i hi => ?_⟩, ?_, by rw [k22]; exact h3, by unfold cmC; rw [k23]; exact h4, by rw [k24]; exact h5, by rw [k24]; exact h6, by rw [k24]; exact h7⟩
  · unfold VS rmQ
    rw [u2_n _ _ _ (show 8 * 0 + i ≠ 16 by omega)]
    by_cases e : i < j
    · rw [if_pos e]
      have := a8.2.2 i (by omega)
      unfold VS at this
      have e2 : rmS σ 0 j (n - 1) (8 * 0 + i) = σ (8 * 0 + i) := by funext f; unfold rmS; rw [if_neg (by omega)]
      rw [e2]
      exact this
    · rw [if_neg e]
      have := a8.2.2 (i + 1) (by omega)
      unfold VS at this
      have e2 : ∀ f, f < 4 → rmS σ 0 j (n - 1) (8 * 0 + i) f = σ (8 * 0 + (i + 1)) f := by intro f hf; unfold rmS; rw [if_pos (by omega)]; rfl
      rw [e2 0 (by omega), e2 1 (by omega), e2 2 (by omega), e2 3 (by omega)]
      exact this
  · unfold AS at *
    rw [k24]
    exact h2
theorem lm_rem {σ : Sg} {R C n : Nat} {sq : Nat → S4} {sp : S4} {g : Nat → Int32} {cm : Cm} {x y z : Int32} (h : IM σ R C n sq sp g cm x y z) {j : Nat} (hj : j < n) : IM (mrm (u2 σ 29 10 (nI (n - 1))) j (n - 1)) R C (n - 1) (rmQ sq j) sp g cm x y z := by
  obtain ⟨⟨a1, a2, a3, a4, a5, a6, a7⟩, h2, h3, h4, h5, h6, h7⟩ := h
  have hn8 := a7.2.1
  have h29 : mrm (u2 σ 29 10 (nI (n - 1))) j (n - 1) 29 = u2 σ 29 10 (nI (n - 1)) 29 := mrm_n _ (by omega)
  have h30 : mrm (u2 σ 29 10 (nI (n - 1))) j (n - 1) 30 = σ 30 := (mrm_n _ (by omega)).trans (u2_n _ _ _ (by omega))
  have hf : ∀ f, f ≠ 10 → mrm (u2 σ 29 10 (nI (n - 1))) j (n - 1) 29 f = σ 29 f := fun f hf => by rw [h29, u2_sn _ _ _ hf]
  refine ⟨⟨by rw [hf 0 (by omega)]; exact a1, by rw [hf 1 (by omega)]; exact a2, a3, a4, a5, a6, by rw [h29, u2_ss], by omega, fun i hi => ?_⟩, ?_, by rw [h30]; exact h3, by unfold cmM; rw [hf 2 (by omega), hf 3 (by omega), hf 4 (by omega), hf 5 (by omega)]; exact h4, by rw [hf 6 (by omega)]; exact h5, by rw [hf 7 (by omega)]; exact h6, by rw [hf 8 (by omega)]; exact h7⟩
  · unfold MV rmQ
    by_cases e : i < j
    · rw [if_pos e]
      have := a7.2.2 i (by omega)
      unfold MV at this
      have e2 : ∀ k, k ≠ 29 → mrm (u2 σ 29 10 (nI (n - 1))) j (n - 1) k i = σ k i := by intro k hk; unfold mrm; rw [if_neg (by omega), u2_n _ _ _ hk]
      rw [e2 31 (by omega), e2 32 (by omega), e2 33 (by omega), e2 34 (by omega)]
      exact this
    · rw [if_neg e]
      have := a7.2.2 (i + 1) (by omega)
      unfold MV at this
      have e2 : ∀ k, 31 ≤ k → k ≤ 34 → mrm (u2 σ 29 10 (nI (n - 1))) j (n - 1) k i = σ k (i + 1) := by intro k g1 g2; unfold mrm; rw [if_pos (by omega), u2_n _ _ _ (by omega)]
      rw [e2 31 (by omega) (by omega), e2 32 (by omega) (by omega), e2 33 (by omega) (by omega), e2 34 (by omega) (by omega)]
      exact this
  · unfold AM at *
    rw [hf 6 (by omega), hf 7 (by omega), hf 8 (by omega)]
    exact h2
theorem lc_lay {σ : Sg} {R C n : Nat} {sq : Nat → S4} {sp : S4} {g : Nat → Int32} {cm : Cm} {x y z : Int32} (h : IC σ R C n sq sp g cm x y z) {rs ps : Nat} (h1 : 1 ≤ rs) (h2 : rs ≤ R) (h3 : 1 ≤ ps) (h4 : ps ≤ C) (h8 : ¬ 8 < ndF R rs) : IC (layS σ 0 rs ps C (ndF R rs)) R C (ndF R rs) (sqP rs ps C) sp g cm x y z := by
  obtain ⟨⟨a1, a2, a3, a4, a5, a6, a7, a8⟩, q2, q3, q4, q5, q6, q7⟩ := h
  have hk : ∀ k, 8 ≤ k → k ≠ 16 → layS σ 0 rs ps C (ndF R rs) k = σ k := fun k g1 g2 => layS_n _ (by omega) (by omega) (by omega)
  have k21 := hk 21 (by omega) (by omega)
  have k22 := hk 22 (by omega) (by omega)
  have k23 := hk 23 (by omega) (by omega)
  have k24 := hk 24 (by omega) (by omega)
  refine ⟨⟨by rw [k21]; exact a1, by rw [k21]; exact a2, a3, a4, a5, a6, by rw [k22, k23]; exact a7, layS_L (R := R) (by decide) (by omega) h1 h2 a4 (by omega) a6 h3 (by omega) (Nat.le_refl _)⟩, ?_, by rw [k22]; exact q3, by unfold cmC; rw [k23]; exact q4, by rw [k24]; exact q5, by rw [k24]; exact q6, by rw [k24]; exact q7⟩
  unfold AS at *
  rw [k24]
  exact q2
theorem mlay_s {σ : Sg} {rs ps C : Nat} (m : Nat) {i : Nat} (hi : i < m) : mlay σ rs ps C m 31 i = nI (rs / 2 + i * rs) ∧ mlay σ rs ps C m 32 i = 0 ∧ mlay σ rs ps C m 33 i = nI (C - 1) ∧ mlay σ rs ps C m 34 i = nI ps := by
  induction m with
  | zero => omega
  | succ m ih =>
    by_cases e : i = m
    · subst e
      refine ⟨?_, ?_, ?_, ?_⟩ <;> simp [mlay, mput, u2, va_up]
    · obtain ⟨i1, i2, i3, i4⟩ := ih (by omega)
      refine ⟨?_, ?_, ?_, ?_⟩
      · rw [← i1]; simp [mlay, mput, u2, va_up, e]
      · rw [← i2]; simp [mlay, mput, u2, va_up, e]
      · rw [← i3]; simp [mlay, mput, u2, va_up, e]
      · rw [← i4]; simp [mlay, mput, u2, va_up, e]
theorem lm_lay {σ : Sg} {R C n : Nat} {sq : Nat → S4} {sp : S4} {g : Nat → Int32} {cm : Cm} {x y z : Int32} (h : IM σ R C n sq sp g cm x y z) {rs ps : Nat} (h1 : 1 ≤ rs) (h2 : rs ≤ R) (h3 : 1 ≤ ps) (h4 : ps ≤ C) (h8 : ¬ 8 < ndF R rs) : IM (mlay σ rs ps C (ndF R rs)) R C (ndF R rs) (sqP rs ps C) sp g cm x y z := by
  obtain ⟨⟨a1, a2, a3, a4, a5, a6, a7⟩, q2, q3, q4, q5, q6, q7⟩ := h
  have h30 : mlay σ rs ps C (ndF R rs) 30 = σ 30 := mlay_n _ (by omega) (by omega)
  have hf : ∀ f, f ≠ 10 → mlay σ rs ps C (ndF R rs) 29 f = σ 29 f := fun f hf => mlay_f _ hf
  refine ⟨⟨by rw [hf 0 (by omega)]; exact a1, by rw [hf 1 (by omega)]; exact a2, a3, a4, a5, a6, mlay_c _ _ _ _ _, by omega, fun i hi => ?_⟩, ?_, by rw [h30]; exact q3, by unfold cmM; rw [hf 2 (by omega), hf 3 (by omega), hf 4 (by omega), hf 5 (by omega)]; exact q4, by rw [hf 6 (by omega)]; exact q5, by rw [hf 7 (by omega)]; exact q6, by rw [hf 8 (by omega)]; exact q7⟩
  · obtain ⟨e0, e1, e2, e3⟩ := mlay_s (σ := σ) (rs := rs) (ps := ps) (C := C) (ndF R rs) hi
    have hr := row_lt h1 h2 hi
    exact ⟨e0, e1, e2, e3, show rs / 2 + i * rs < 10 by omega, Nat.zero_le _, show C - 1 < 16 by omega, h3, show ps ≤ 16 by omega⟩
  · unfold AM at *
    rw [hf 6 (by omega), hf 7 (by omega), hf 8 (by omega)]
    exact q2
