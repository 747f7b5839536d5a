/-! ===== one call of the law on both sides: from what the two calls leave, the two tell of one survey again ===== -/
section PAIR
variable {σ σ1 σ2 : Sg} {R C n : Nat} {sq : Nat → S4} {sp : S4} {g : Nat → Int32} {cm : Cm} {u v w : Int32} {r1 r2 x y z h : Int32}
theorem hi_ov {a b d : Int32} (h1 : σ1 = ovS σ a b d) : hi σ σ1 := by
  subst h1
  exact ((hi_u2 (by omega)).tr (hi_u2 (by omega))).tr (hi_u2 (by omega))
theorem hi_P (h1 : PFr σ σ1) : hi σ σ1 := fun k hk => h1 k (by omega) (by omega) (by omega)
theorem hi_R (h1 : RFr σ σ1) : hi σ σ1 := fun k hk => h1 k (by omega) (by omega)
theorem ic_ov (hc : IC σ R C n sq sp g cm u v w) {a b d : Int32} (h1 : σ1 = ovS σ a b d) : IC σ1 R C n sq sp g cm u v w := IC_of hc (fun k hk => by subst h1; unfold ovS; rw [u2_n _ _ _ (by omega), u2_n _ _ _ (by omega), u2_n _ _ _ (by omega)])
theorem ic_P (hc : IC σ R C n sq sp g cm u v w) (h1 : PFr σ σ1) : IC σ1 R C n sq sp g cm u v w := IC_of hc (fun k hk => h1 k (by omega) (by omega) (by omega))
theorem ic_R (hc : IC σ R C n sq sp g cm u v w) (h1 : RFr σ σ1) : IC σ1 R C n sq sp g cm u v w := IC_of hc (fun k hk => h1 k (by omega) (by omega))
theorem im_M (hm : IM σ R C n sq sp g cm u v w) (h1 : MFr σ σ1) : IM σ1 R C n sq sp g cm u v w := IM_of hm (fun f hf => h1.2 f (by omega) (by omega) (by omega)) (fun k a b => h1.1 k (by omega) (by omega))
theorem im_N (hm : IM σ R C n sq sp g cm u v w) (h1 : NFr σ σ1) : IM σ1 R C n sq sp g cm u v w := IM_of hm (fun f hf => by rw [h1 29 (by omega)]) (fun k a b => h1 k (by omega))
theorem lo_M (h1 : MFr σ σ1) : lo σ σ1 := fun k hk => h1.1 k (by omega) (by omega)
theorem lo_N (h1 : NFr σ σ1) : lo σ σ1 := fun k hk => h1 k (by omega)
theorem u2u2 (σ : Sg) (k i j : Nat) (a b : Int32) : u2 (u2 σ k i a) k j b = va_up σ k (va_up (va_up (σ k) i a) j b) := by
  funext q
  by_cases e : q = k
  · subst e; simp [u2, va_up]
  · simp [u2, va_up, e]
/-! resize -/
theorem hi_resize (h1 : r1 = aRes x y ∧ σ1 = if isW x 3 10 && isW y 4 16 then u2 (va_up (u2 (u2 σ 21 0 x) 21 1 y) 22 (zr (σ 22) 160)) 16 0 0 else σ) : hi σ σ1 := by
  rw [h1.2]
  split
  · exact (((hi_u2 (by omega)).tr (hi_u2 (by omega))).tr (hi_up (by omega))).tr (hi_u2 (by omega))
  · exact hi_rf _
theorem pr_resize (hc : IC σ R C n sq sp g cm u v w) (hm : IM σ R C n sq sp g cm u v w) (h1 : r1 = aRes x y ∧ σ1 = if isW x 3 10 && isW y 4 16 then u2 (va_up (u2 (u2 σ 21 0 x) 21 1 y) 22 (zr (σ 22) 160)) 16 0 0 else σ) (h2 : r2 = aRes x y ∧ σ2 = if isW x 3 10 && isW y 4 16 then va_up (u2 (u2 (u2 σ1 29 0 x) 29 1 y) 29 10 0) 30 (zr (σ1 30) 160) else σ1) : r1 = r2 ∧ INV σ2 := by
  have m0 := IM_hi hm (hi_resize h1)
  refine ⟨h1.1.trans h2.1.symm, ?_⟩
  by_cases hw : (isW x 3 10 && isW y 4 16) = true
  · rw [if_pos hw] at h1 h2
    simp only [Bool.and_eq_true] at hw
    obtain ⟨a, a1, a2, rfl, -⟩ := isW_of (a := 3) (b := 10) hw.1 (by omega) (by omega)
    obtain ⟨c, c1, c2, rfl, -⟩ := isW_of (a := 4) (b := 16) hw.2 (by omega) (by omega)
    rw [h2.2]
    refine inv_same (σ1 := σ1) ?_ (lm_resize m0 a1 a2 c1 c2) (((lo_u2 (by omega)).tr (lo_u2 (by omega))).tr (lo_u2 (by omega)) |>.tr (lo_up (by omega)))
    rw [h1.2]
    exact lc_resize hc a1 a2 c1 c2
  · rw [if_neg hw] at h1 h2
    rw [h2.2]
    exact inv_same (by rw [h1.2]; exact hc) m0 (lo_rf _)
/-! setHeight -/
theorem hi_setHeight (h1 : r1 = aSetH R C (σ 22) x y h ∧ σ1 = if (inB x R && inB y C) && isW h 0 999 then u2 σ 22 (16 * NN x + NN y) h else σ) : hi σ σ1 := by
  rw [h1.2]
  split
  · exact hi_u2 (by omega)
  · exact hi_rf _
theorem g_eq (hc : IC σ R C n sq sp g cm u v w) (hm : IM σ1 R C n sq sp g cm u v w) : σ1 30 = σ 22 := hm.2.2.1.trans hc.2.2.1.symm
theorem hB_of (hc : IC σ R C n sq sp g cm u v w) : (∀ j, j < 160 → 0 ≤ σ 22 j ∧ σ 22 j ≤ 999) ∧ 100 ≤ σ 23 0 ∧ σ 23 0 ≤ 5000 := hc.1.2.2.2.2.2.2.1
theorem pr_setHeight (hc : IC σ R C n sq sp g cm u v w) (hm : IM σ R C n sq sp g cm u v w) (h1 : r1 = aSetH R C (σ 22) x y h ∧ σ1 = if (inB x R && inB y C) && isW h 0 999 then u2 σ 22 (16 * NN x + NN y) h else σ) (h2 : r2 = aSetH R C (σ1 30) x y h ∧ σ2 = if (inB x R && inB y C) && isW h 0 999 then u2 σ1 30 (16 * NN x + NN y) h else σ1) : r1 = r2 ∧ INV σ2 := by
  have m0 := IM_hi hm (hi_setHeight h1)
  have e := g_eq hc m0
  refine ⟨h1.1.trans (by rw [h2.1, e]), ?_⟩
  by_cases hw : ((inB x R && inB y C) && isW h 0 999) = true
  · rw [if_pos hw] at h1 h2
    simp only [Bool.and_eq_true] at hw
    have hh := isW_c hw.2
    have hg : ∀ j, j < 160 → 0 ≤ va_up (σ 22) (16 * NN x + NN y) h j ∧ va_up (σ 22) (16 * NN x + NN y) h j ≤ 999 := by
      intro j hj
      by_cases q : j = 16 * NN x + NN y
      · rw [q, up_s]; exact hh
      · rw [up_n _ _ q]; exact (hB_of hc).1 j hj
    have e2 : σ2 = va_up σ1 30 (va_up (σ 22) (16 * NN x + NN y) h) := by rw [h2.2]; unfold u2; rw [e]
    rw [e2]
    refine inv_same (σ1 := σ1) ?_ (lm_grid m0 _) (lo_up (by omega))
    rw [h1.2]
    exact lc_grid hc hg
  · rw [if_neg hw] at h1 h2
    rw [h2.2]
    exact inv_same (by rw [h1.2]; exact hc) m0 (lo_rf _)
/-! raiseHill -/
theorem hi_raiseHill (h1 : r1 = aHill R C (σ 22) x y z h ∧ σ1 = if (inB x R && inB y C) && (isW z 0 5 && isW h 1 999) then va_up σ 22 (rzS C (NN x) (NN y) (NN z) h (σ 22) (R * C)).1 else σ) : hi σ σ1 := by
  rw [h1.2]
  split
  · exact hi_up (by omega)
  · exact hi_rf _
theorem pr_raiseHill (hc : IC σ R C n sq sp g cm u v w) (hm : IM σ R C n sq sp g cm u v w) (h1 : r1 = aHill R C (σ 22) x y z h ∧ σ1 = if (inB x R && inB y C) && (isW z 0 5 && isW h 1 999) then va_up σ 22 (rzS C (NN x) (NN y) (NN z) h (σ 22) (R * C)).1 else σ) (h2 : r2 = aHill R C (σ1 30) x y z h ∧ σ2 = if (inB x R && inB y C) && (isW z 0 5 && isW h 1 999) then va_up σ1 30 (rzS C (NN x) (NN y) (NN z) h (σ1 30) (R * C)).1 else σ1) : r1 = r2 ∧ INV σ2 := by
  have m0 := IM_hi hm (hi_raiseHill h1)
  have e := g_eq hc m0
  refine ⟨h1.1.trans (by rw [h2.1, e]), ?_⟩
  by_cases hw : ((inB x R && inB y C) && (isW z 0 5 && isW h 1 999)) = true
  · rw [if_pos hw] at h1 h2
    simp only [Bool.and_eq_true] at hw
    obtain ⟨a, a1, a2, -, a3⟩ := isW_of (a := 0) (b := 5) hw.2.1 (by omega) (by omega)
    have e2 : σ2 = va_up σ1 30 (rzS C (NN x) (NN y) (NN z) h (σ 22) (R * C)).1 := by rw [h2.2, e]
    rw [e2]
    refine inv_same (σ1 := σ1) ?_ (lm_grid m0 _) (lo_up (by omega))
    rw [h1.2]
    exact lc_grid hc (rz_hB (isW_c hw.2.2) (by omega) (hB_of hc).1 _)
  · rw [if_neg hw] at h1 h2
    rw [h2.2]
    exact inv_same (by rw [h1.2]; exact hc) m0 (lo_rf _)
/-! the camera -/
theorem cam_eq (hc : IC σ R C n sq sp g cm u v w) (hm : IM σ1 R C n sq sp g cm u v w) : σ1 29 2 = σ 23 0 ∧ σ1 29 3 = σ 23 1 ∧ σ1 29 4 = σ 23 2 ∧ σ1 29 5 = σ 23 3 := by
  have e := hm.2.2.2.1.trans hc.2.2.2.1.symm
  simpa only [cmC, cmM, Prod.mk.injEq] using e
theorem inv_cam (hc : IC σ R C n sq sp g cm u v w) (hm : IM σ1 R C n sq sp g cm u v w) {f k : Nat → Int32} (h1 : σ1 = va_up σ 23 f) (h2 : σ2 = va_up σ1 29 k) (hf : 100 ≤ f 0 ∧ f 0 ≤ 5000) (hk : ∀ j, j ≠ 2 → j ≠ 3 → j ≠ 4 → j ≠ 5 → k j = σ1 29 j) (he : k 2 = f 0 ∧ k 3 = f 1 ∧ k 4 = f 2 ∧ k 5 = f 3) : INV σ2 := by
  have m1 := lm_cam hm k hk
  rw [he.1, he.2.1, he.2.2.1, he.2.2.2] at m1
  rw [h2]
  refine inv_same (σ1 := σ1) ?_ m1 (lo_up (by omega))
  rw [h1]
  exact lc_cam hc f hf
theorem hi_setAltitude (h1 : r1 = aAlt (σ 23 0) x ∧ σ1 = if isW x 100 5000 then u2 σ 23 0 x else σ) : hi σ σ1 := by
  rw [h1.2]
  split
  · exact hi_u2 (by omega)
  · exact hi_rf _
theorem pr_setAltitude (hc : IC σ R C n sq sp g cm u v w) (hm : IM σ R C n sq sp g cm u v w) (h1 : r1 = aAlt (σ 23 0) x ∧ σ1 = if isW x 100 5000 then u2 σ 23 0 x else σ) (h2 : r2 = aAlt (σ1 29 2) x ∧ σ2 = if isW x 100 5000 then u2 σ1 29 2 x else σ1) : r1 = r2 ∧ INV σ2 := by
  have m0 := IM_hi hm (hi_setAltitude h1)
  obtain ⟨e0, e1, e2, e3⟩ := cam_eq hc m0
  refine ⟨h1.1.trans (by rw [h2.1, e0]), ?_⟩
  by_cases hw : isW x 100 5000 = true
  · rw [if_pos hw] at h1 h2
    exact inv_cam hc m0 (f := va_up (σ 23) 0 x) (k := va_up (σ1 29) 2 x) h1.2 h2.2 (by rw [up_s]; exact isW_c hw) (fun j h2 _ _ _ => up_n _ _ h2) ⟨by simp [va_up], by simp [va_up, e1], by simp [va_up, e2], by simp [va_up, e3]⟩
  · rw [if_neg hw] at h1 h2
    rw [h2.2]
    exact inv_same (by rw [h1.2]; exact hc) m0 (lo_rf _)
theorem hi_setFields (h1 : r1 = aFld (σ 23 1) (σ 23 2) x y ∧ σ1 = if isW x 1 50 && isW y 1 50 then u2 (u2 σ 23 1 x) 23 2 y else σ) : hi σ σ1 := by
  rw [h1.2]
  split
  · exact (hi_u2 (by omega)).tr (hi_u2 (by omega))
  · exact hi_rf _
theorem pr_setFields (hc : IC σ R C n sq sp g cm u v w) (hm : IM σ R C n sq sp g cm u v w) (h1 : r1 = aFld (σ 23 1) (σ 23 2) x y ∧ σ1 = if isW x 1 50 && isW y 1 50 then u2 (u2 σ 23 1 x) 23 2 y else σ) (h2 : r2 = aFld (σ1 29 3) (σ1 29 4) x y ∧ σ2 = if isW x 1 50 && isW y 1 50 then u2 (u2 σ1 29 3 x) 29 4 y else σ1) : r1 = r2 ∧ INV σ2 := by
  have m0 := IM_hi hm (hi_setFields h1)
  obtain ⟨e0, e1, e2, e3⟩ := cam_eq hc m0
  refine ⟨h1.1.trans (by rw [h2.1, e1, e2]), ?_⟩
  by_cases hw : (isW x 1 50 && isW y 1 50) = true
  · rw [if_pos hw, u2u2] at h1 h2
    exact inv_cam hc m0 h1.2 h2.2 (by simp only [va_up]; exact (hB_of hc).2) (fun j _ h3 h4 _ => by rw [up_n _ _ h4, up_n _ _ h3]) ⟨by simp [va_up, e0], by simp [va_up], by simp [va_up], by simp [va_up, e3]⟩
  · rw [if_neg hw] at h1 h2
    rw [h2.2]
    exact inv_same (by rw [h1.2]; exact hc) m0 (lo_rf _)
theorem hi_setCrab (h1 : r1 = aCrb (σ 23 3) x ∧ σ1 = if isW x (-100) 100 then u2 σ 23 3 x else σ) : hi σ σ1 := by
  rw [h1.2]
  split
  · exact hi_u2 (by omega)
  · exact hi_rf _
theorem pr_setCrab (hc : IC σ R C n sq sp g cm u v w) (hm : IM σ R C n sq sp g cm u v w) (h1 : r1 = aCrb (σ 23 3) x ∧ σ1 = if isW x (-100) 100 then u2 σ 23 3 x else σ) (h2 : r2 = aCrb (σ1 29 5) x ∧ σ2 = if isW x (-100) 100 then u2 σ1 29 5 x else σ1) : r1 = r2 ∧ INV σ2 := by
  have m0 := IM_hi hm (hi_setCrab h1)
  obtain ⟨e0, e1, e2, e3⟩ := cam_eq hc m0
  refine ⟨h1.1.trans (by rw [h2.1, e3]), ?_⟩
  by_cases hw : isW x (-100) 100 = true
  · rw [if_pos hw] at h1 h2
    exact inv_cam hc m0 (f := va_up (σ 23) 3 x) (k := va_up (σ1 29) 5 x) h1.2 h2.2 (by simp only [va_up]; exact (hB_of hc).2) (fun j _ _ _ h5 => up_n _ _ h5) ⟨by simp [va_up, e0], by simp [va_up, e1], by simp [va_up, e2], by simp [va_up]⟩
  · rw [if_neg hw] at h1 h2
    rw [h2.2]
    exact inv_same (by rw [h1.2]; exact hc) m0 (lo_rf _)
/-! the speeds -/
theorem hi_setSpeed (h1 : r1 = aSpd (σ 24 0) (σ 24 1) (σ 24 2) x y z ∧ σ1 = if isW x 50 300 && (isW y (-40) 40 && isW z 0 500) then u2 (u2 (u2 σ 24 0 x) 24 1 y) 24 2 z else σ) : hi σ σ1 := by
  rw [h1.2]
  split
  · exact ((hi_u2 (by omega)).tr (hi_u2 (by omega))).tr (hi_u2 (by omega))
  · exact hi_rf _
theorem pr_setSpeed (hc : IC σ R C n sq sp g cm u v w) (hm : IM σ R C n sq sp g cm u v w) (h1 : r1 = aSpd (σ 24 0) (σ 24 1) (σ 24 2) x y z ∧ σ1 = if isW x 50 300 && (isW y (-40) 40 && isW z 0 500) then u2 (u2 (u2 σ 24 0 x) 24 1 y) 24 2 z else σ) (h2 : r2 = aSpd (σ1 29 6) (σ1 29 7) (σ1 29 8) x y z ∧ σ2 = if isW x 50 300 && (isW y (-40) 40 && isW z 0 500) then u2 (u2 (u2 σ1 29 6 x) 29 7 y) 29 8 z else σ1) : r1 = r2 ∧ INV σ2 := by
  have m0 := IM_hi hm (hi_setSpeed h1)
  refine ⟨h1.1.trans (by rw [h2.1, m0.2.2.2.2.1, m0.2.2.2.2.2.1, m0.2.2.2.2.2.2, hc.2.2.2.2.1, hc.2.2.2.2.2.1, hc.2.2.2.2.2.2]), ?_⟩
  by_cases hw : (isW x 50 300 && (isW y (-40) 40 && isW z 0 500)) = true
  · rw [if_pos hw] at h1 h2
    simp only [Bool.and_eq_true] at hw
    obtain ⟨sp', hs⟩ := sp_of (isW_c hw.1) (isW_c hw.2.1) (isW_c hw.2.2)
    rw [h2.2]
    refine inv_same (σ1 := σ1) ?_ (lm_spd m0 hs) (((lo_u2 (by omega)).tr (lo_u2 (by omega))).tr (lo_u2 (by omega)))
    rw [h1.2]
    exact lc_spd hc hs
  · rw [if_neg hw] at h1 h2
    rw [h2.2]
    exact inv_same (by rw [h1.2]; exact hc) m0 (lo_rf _)
/-! strips -/
theorem aAdd_ok (hR : R ≤ 10) (hC : C ≤ 16) (hn : n ≤ 8) (hw : 0 ≤ aAdd R C n x y z h) : n < 8 ∧ ∃ q : S4, okS q ∧ x = nI q.1 ∧ y = nI q.2.1 ∧ z = nI q.2.2.1 ∧ h = nI q.2.2.2 := by
  unfold aAdd at hw
  split at hw
  · exact absurd hw (by decide)
  · rename_i c1
    split at hw
    · exact absurd hw (by decide)
    · rename_i c2
      split at hw
      · exact absurd hw (by decide)
      · rename_i c3
        simp only [Bool.not_eq_true', Bool.not_eq_false, Bool.and_eq_true, Bool.or_eq_true, decide_eq_true_eq, not_or, Bool.not_eq_false] at c1 c2
        obtain ⟨a, a1, rfl⟩ := inB_of c1.1.1 (by omega)
        obtain ⟨b, b1, rfl⟩ := inB_of c1.1.2 (by omega)
        obtain ⟨d, d1, rfl⟩ := inB_of c1.2.2 (by omega)
        obtain ⟨k, k1, k2, rfl, -⟩ := isW_of (a := 1) (b := 16) c2.2 (by omega) (by omega)
        refine ⟨by omega, (a, b, d, k), ⟨show a < 10 by omega, ?_, show d < 16 by omega, k1, k2⟩, rfl, rfl, rfl, rfl⟩
        show b ≤ d
        exact (nI_leI (by omega) (by omega)).mp (Int32.not_lt.mp c2.1)
theorem hi_addStrip (hn : n ≤ 8) (h1 : r1 = aAdd R C n x y z h ∧ σ1 = if 0 ≤ aAdd R C n x y z h then addF σ 0 n x y z h else σ) : hi σ σ1 := by
  rw [h1.2]
  split
  · exact fun k hk => addF_n (by omega) (by omega)
  · exact hi_rf _
theorem pr_addStrip (hc : IC σ R C n sq sp g cm u v w) (hm : IM σ R C n sq sp g cm u v w) (h1 : r1 = aAdd R C n x y z h ∧ σ1 = if 0 ≤ aAdd R C n x y z h then addF σ 0 n x y z h else σ) (h2 : r2 = aAdd R C n x y z h ∧ σ2 = if 0 ≤ aAdd R C n x y z h then mput σ1 n x y z h else σ1) : r1 = r2 ∧ INV σ2 := by
  have hn8 := hc.1.2.2.2.2.2.2.2.2.1
  have m0 := IM_hi hm (hi_addStrip hn8 h1)
  refine ⟨h1.1.trans h2.1.symm, ?_⟩
  by_cases hw : 0 ≤ aAdd R C n x y z h
  · obtain ⟨hn, q, hq, rfl, rfl, rfl, rfl⟩ := aAdd_ok hc.1.2.2.2.1 hc.1.2.2.2.2.2.1 hn8 hw
    rw [if_pos hw] at h1 h2
    rw [h2.2]
    refine inv_same (σ1 := σ1) ?_ (lm_add m0 hn hq) (fun k hk => mput_n (by omega) (by omega))
    rw [h1.2]
    exact lc_add hc hn hq
  · rw [if_neg hw] at h1 h2
    rw [h2.2]
    exact inv_same (by rw [h1.2]; exact hc) m0 (lo_rf _)
theorem hi_removeStrip (hn : n ≤ 8) (h1 : r1 = aRem n x ∧ σ1 = if inB x n then u2 (rmS σ 0 (NN x) (n - 1)) 16 0 (nI (n - 1)) else σ) : hi σ σ1 := by
  rw [h1.2]
  split
  · exact fun k hk => by rw [u2_n _ _ _ (by omega)]; exact rmS_at σ 0 _ (by omega)
  · exact hi_rf _
theorem pr_removeStrip (hc : IC σ R C n sq sp g cm u v w) (hm : IM σ R C n sq sp g cm u v w) (h1 : r1 = aRem n x ∧ σ1 = if inB x n then u2 (rmS σ 0 (NN x) (n - 1)) 16 0 (nI (n - 1)) else σ) (h2 : r2 = aRem n x ∧ σ2 = if inB x n then mrm (u2 σ1 29 10 (nI (n - 1))) (NN x) (n - 1) else σ1) : r1 = r2 ∧ INV σ2 := by
  have hn8 := hc.1.2.2.2.2.2.2.2.2.1
  have m0 := IM_hi hm (hi_removeStrip hn8 h1)
  refine ⟨h1.1.trans h2.1.symm, ?_⟩
  by_cases hw : inB x n = true
  · obtain ⟨j, hj, rfl⟩ := inB_of hw (by omega)
    have hN : NN (nI j) = j := N_of rfl (by omega)
    rw [if_pos hw, hN] at h1 h2
    rw [h2.2]
    refine inv_same (σ1 := σ1) ?_ (lm_rem m0 hj) (fun k hk => (mrm_n _ (by omega)).trans (u2_n _ _ _ (by omega)))
    rw [h1.2]
    exact lc_rem hc hj
  · rw [if_neg hw] at h1 h2
    rw [h2.2]
    exact inv_same (by rw [h1.2]; exact hc) m0 (lo_rf _)
/-! the plan laid out -/
abbrev pC (σ σ1 : Sg) (R C : Nat) (x r1 : Int32) : Prop := r1 = aPln R C (σ 22) (cmC σ) x (fun a => ndF R a.2.1) ∧ ∃ τ, PFr σ τ ∧ (∀ a, isW x 1 9 = true → bsF (σ 22) (cmC σ) R C (NN x) (R * C) = some a → σ1 = layS τ 0 a.2.1 a.2.2 C (ndF R a.2.1)) ∧ (isW x 1 9 = false ∨ bsF (σ 22) (cmC σ) R C (NN x) (R * C) = none → σ1 = τ)
abbrev pM (σ σ1 : Sg) (R C : Nat) (x r1 : Int32) : Prop := r1 = aPln R C (σ 30) (cmM σ) x (fun a => ndF R a.2.1) ∧ ∃ τ, MFr σ τ ∧ (∀ a, isW x 1 9 = true → bsF (σ 30) (cmM σ) R C (NN x) (R * C) = some a → σ1 = mlay τ a.2.1 a.2.2 C (ndF R a.2.1)) ∧ (isW x 1 9 = false ∨ bsF (σ 30) (cmM σ) R C (NN x) (R * C) = none → σ1 = τ)
theorem plan_or (g : Nat → Int32) (cm : Cm) (R C : Nat) (x : Int32) : (∃ a, isW x 1 9 = true ∧ bsF g cm R C (NN x) (R * C) = some a) ∨ (isW x 1 9 = false ∨ bsF g cm R C (NN x) (R * C) = none) := by
  cases h1 : isW x 1 9 with
  | false => exact Or.inr (Or.inl rfl)
  | true =>
    cases h2 : bsF g cm R C (NN x) (R * C) with
    | none => exact Or.inr (Or.inr rfl)
    | some a => exact Or.inl ⟨a, rfl, rfl⟩
theorem plan_ok {a : Nat × Nat × Nat} (hR3 : 3 ≤ R) (hR : R ≤ 10) (hC4 : 4 ≤ C) (hC : C ≤ 16) {k : Nat} (h : bsF g cm R C k (R * C) = some a) : 1 ≤ a.2.1 ∧ a.2.1 ≤ R ∧ 1 ≤ a.2.2 ∧ a.2.2 ≤ C ∧ ¬ 8 < ndF R a.2.1 := by
  obtain ⟨b1, b2, b3, b4⟩ := bs_le hR hC (by omega) _ _ h
  obtain ⟨b5, b6⟩ := bs_ok (by omega) _ (Nat.le_refl _) _ h
  exact ⟨b5, b2, b4, b3, b6⟩
theorem hi_applyPlan (hc : IC σ R C n sq sp g cm u v w) (h1 : pC σ σ1 R C x r1) : hi σ σ1 := by
  obtain ⟨-, τ, hF, k1, k2⟩ := h1
  rcases plan_or (σ 22) (cmC σ) R C x with ⟨a, a1, a2⟩ | q
  · obtain ⟨b1, b2, b3, b4, b5⟩ := plan_ok hc.1.2.2.1 hc.1.2.2.2.1 hc.1.2.2.2.2.1 hc.1.2.2.2.2.2.1 a2
    rw [k1 a a1 a2]
    exact (hi_P hF).tr (fun k hk => layS_n _ (by omega) (by omega) (by omega))
  · rw [k2 q]
    exact hi_P hF
theorem pr_applyPlan (hc : IC σ R C n sq sp g cm u v w) (hm : IM σ R C n sq sp g cm u v w) (h1 : pC σ σ1 R C x r1) (h2 : pM σ1 σ2 R C x r2) : r1 = r2 ∧ INV σ2 := by
  have m0 := IM_hi hm (hi_applyPlan hc h1)
  obtain ⟨q1, τ, hF, k1, k2⟩ := h1
  obtain ⟨q2, τ2, hF2, l1, l2⟩ := h2
  rw [hc.2.2.1, hc.2.2.2.1] at q1 k1 k2
  rw [m0.2.2.1, m0.2.2.2.1] at q2 l1 l2
  refine ⟨q1.trans q2.symm, ?_⟩
  have m1 := im_M m0 hF2
  rcases plan_or g cm R C x with ⟨a, a1, a2⟩ | q
  · obtain ⟨b1, b2, b3, b4, b5⟩ := plan_ok hc.1.2.2.1 hc.1.2.2.2.1 hc.1.2.2.2.2.1 hc.1.2.2.2.2.2.1 a2
    rw [l1 a a1 a2]
    refine inv_same (σ1 := σ1) ?_ (lm_lay m1 b1 b2 b3 b4 b5) ((lo_M hF2).tr (fun k hk => mlay_n _ (by omega) (by omega)))
    rw [k1 a a1 a2]
    exact lc_lay (ic_P hc hF) b1 b2 b3 b4 b5
  · rw [l2 q]
    exact inv_same (by rw [k2 q]; exact ic_P hc hF) m1 (lo_M hF2)
end PAIR
