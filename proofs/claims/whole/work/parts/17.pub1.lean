/-! ===== what the survey answers, of R rows, C columns, heights g, camera cm, strips sq below n ===== -/
def aRes (x y : Int32) : Int32 := if isW x 3 10 && isW y 4 16 then x * y else -4
def aSetH (R C : Nat) (g : Nat → Int32) (x y h : Int32) : Int32 := if !(inB x R && inB y C) then -1 else if !isW h 0 999 then -4 else g (16 * NN x + NN y)
def aHgt (R C : Nat) (g : Nat → Int32) (x y : Int32) : Int32 := if inB x R && inB y C then g (16 * NN x + NN y) else -1
def aAlt (alt x : Int32) : Int32 := if isW x 100 5000 then alt else -4
def aFld (al ac x y : Int32) : Int32 := if isW x 1 50 && isW y 1 50 then (if al = x ∧ ac = y then 0 else 1) else -4
def aCrb (cr x : Int32) : Int32 := if isW x (-100) 100 then (if cr = x then 0 else 1) else -4
def aSpd (a b c x y z : Int32) : Int32 := if isW x 50 300 && (isW y (-40) 40 && isW z 0 500) then (if a = x ∧ b = y ∧ c = z then 0 else 1) else -4
def aAdd (R C n : Nat) (x f l s : Int32) : Int32 := if !((inB x R && inB f C) && (inB x R && inB l C)) then -1 else if decide (l < f) || !isW s 1 16 then -4 else if n = 8 then -5 else nI n
def aRem (n : Nat) (x : Int32) : Int32 := if inB x n then nI (n - 1) else -2
def aPhc (n : Nat) (sq : Nat → S4) (x : Int32) : Int32 := if inB x n then nI (phF (sq (NN x))) else -2
def aPhcol (n : Nat) (sq : Nat → S4) (x p : Int32) : Int32 := if !inB x n then -2 else if !inB p (phF (sq (NN x))) then -3 else nI ((sq (NN x)).2.1 + NN p * (sq (NN x)).2.2.2)
def aSee (R C : Nat) (g : Nat → Int32) (cm : Cm) (n : Nat) (sq : Nat → S4) (x p r c : Int32) : Int32 := if !inB x n then -2 else if !inB p (phF (sq (NN x))) then -3 else if !(inB r R && inB c C) then -1 else b2i (psF g cm (sq (NN x)) (NN p) (NN r) (NN c))
def fpP (g : Nat → Int32) (cm : Cm) (q : S4) (p C : Nat) : Nat → Bool := fun z => psF g cm q p (z / C) (z % C)
def aFoot (R C : Nat) (g : Nat → Int32) (cm : Cm) (n : Nat) (sq : Nat → S4) (x p : Int32) : Int32 := if !inB x n then -2 else if !inB p (phF (sq (NN x))) then -3 else nI (cnt (fpP g cm (sq (NN x)) (NN p) C) (R * C))
def aCov (R C : Nat) (g : Nat → Int32) (cm : Cm) (n : Nat) (sq : Nat → S4) (x y : Int32) : Int32 := if inB x R && inB y C then nI (covF g cm sq (NN x) (NN y) n) else -1
def aGapc (R C : Nat) (g : Nat → Int32) (cm : Cm) (n : Nat) (sq : Nat → S4) (x : Int32) : Int32 := if isW x 1 9 then nI (cnt (gapP g cm sq n C (NN x)) (R * C)) else -4
/-- the k-th of those below N for which p holds -/
def nthF (p : Nat → Bool) (k : Nat) : Nat → Option Nat
  | 0 => none
  | N + 1 => match nthF p k N with
    | some z => some z
    | none => if p N && decide (cnt p N = k) then some N else none
theorem nth_stop {p : Nat → Bool} {k z N : Nat} (h : nthF p k (z + 1) = some z) (hN : z + 1 ≤ N) : nthF p k N = some z := by
  induction N with
  | zero => omega
  | succ N ih =>
    by_cases e : z + 1 = N + 1
    · rw [← e]; exact h
    · simp only [nthF, ih (by omega)]
def aGapat (R C : Nat) (g : Nat → Int32) (cm : Cm) (n : Nat) (sq : Nat → S4) (x k : Int32) : Int32 := if !isW x 1 9 || decide (k < 0) then -4 else match nthF (gapP g cm sq n C (NN x)) (NN k) (R * C) with
  | some z => nI (100 * (z / C) + z % C)
  | none => -6
def mn2 (a b : Nat) : Nat := if a < b then a else b
def pct (both one other : Nat) : Int32 := if mn2 one other = 0 then 0 else nI (both * 100) / nI (mn2 one other)
def aFwd (R C : Nat) (g : Nat → Int32) (cm : Cm) (n : Nat) (sq : Nat → S4) (x p : Int32) : Int32 := if !inB x n then -2 else if !(inB p (phF (sq (NN x))) && inB (p + 1) (phF (sq (NN x)))) then -3 else
  pct (cnt (fun z => fpP g cm (sq (NN x)) (NN p) C z && fpP g cm (sq (NN x)) (NN p + 1) C z) (R * C)) (cnt (fpP g cm (sq (NN x)) (NN p) C) (R * C)) (cnt (fpP g cm (sq (NN x)) (NN p + 1) C) (R * C))
def ssP (g : Nat → Int32) (cm : Cm) (q : S4) (C : Nat) : Nat → Bool := fun z => ssF g cm q (z / C) (z % C)
def aSide (R C : Nat) (g : Nat → Int32) (cm : Cm) (n : Nat) (sq : Nat → S4) (x y : Int32) : Int32 := if !(inB x n && inB y n) then -2 else
  pct (cnt (fun z => ssP g cm (sq (NN x)) C z && ssP g cm (sq (NN y)) C z) (R * C)) (cnt (ssP g cm (sq (NN x)) C) (R * C)) (cnt (ssP g cm (sq (NN y)) C) (R * C))
def CA (σ : Sg) (R C n : Nat) (sq : Nat → S4) : Prop := σ 21 0 = nI R ∧ σ 21 1 = nI C ∧ 3 ≤ R ∧ R ≤ 10 ∧ 4 ≤ C ∧ C ≤ 16 ∧ hB (σ 22) (σ 23 0) ∧ LSt σ 0 n sq

set_option maxRecDepth 100000 in
set_option maxHeartbeats 4000000 in
theorem c_X8_resize (l : Launch) (G : Gm) (σ : Sg) (x y : Int32) : Met l yX8_resize wsX8_resize (rmO 1 23) (PP G [.ref (G.2.1 20), .int x, .int y] σ) (QI G (RV (aRes x y) (if isW x 3 10 && isW y 4 16 then u2 (va_up (u2 (u2 σ 21 0 x) 21 1 y) 22 (zr (σ 22) 160)) 16 0 0 else σ))) 0 0 (fr G) := by
  refine r_start (cc := cX8_resize) (maxL := 3) (ret := (some .int)) (by decide) rfl (Nat.le_of_ble_eq_true rfl) ?_
  intro pz ez sz mz below meth cz ls CF hr hlk hK hH hS hl
  have CF : CallFix pz mz cz cX8_resize 3 sz (List.toArray [.ref (G.2.1 20), .int x, .int y]) wsX8_resize RX8 := CF
  have hx := CF.1
  have hb := CF.2.1
  have hown := CF.2.2.2.1
  have hts := CF.2.2.2.2
  have hl : lv_has ls 3 [(0, .ref (G.2.1 20)), (1, .int x), (2, .int y)] := hl
  have K1 := hts _ (List.mem_of_getElem? (i := 1) rfl)
  have K2 := hts _ (List.mem_of_getElem? (i := 2) rfl)
  have JX8 : ∀ w ∈ wsX80, w ∈ wsX8_resize := in_r _ [21, 22, 23, 24, 25, 26, 27] (by decide +kernel)
  refine lv_iload_n hx hb dX8_resize_0 rfl (lv_at hl 1 rfl) ?_
  refine lv_iconst (v := 3) hx hb dX8_resize_1 (by decide) ?_
  refine lv_bipush (v := 10) hx hb dX8_resize_2 (by decide) ?_
  refine r_cR hS (r_runS (n := 3) (As := [.int x, .int (3 : Int32), .int (10 : Int32)]) (rest := []) CF hK hH (c_X8_isWithin l G σ x (3 : Int32) (10 : Int32)) gX8_resize_X8_isWithin rfl rfl rfl (by decide +kernel) ⟨⟨Nat.le_of_ble_eq_true rfl, Nat.le_of_ble_eq_true rfl⟩, Nat.le_of_ble_eq_true rfl, Nat.le_of_ble_eq_true rfl⟩ rfl hl.1 rfl (Nat.le_of_ble_eq_true rfl) dX8_resize_4) (fun H locs hH hS => ?_)
  refine r_ifeqB (tgt := 20) hx hb dX8_resize_7 (by decide) (fun c7 => ?_) (fun c7 => ?_)
  · refine lv_bipush (v := (-4)) hx hb dX8_resize_20 (by decide) ?_
    exact r_iret CF hr hlk hH hS dX8_resize_22 ⟨by simp [aRes, c7], by simp [c7]⟩
  · refine lv_iload_n hx hb dX8_resize_10 rfl (lv_at hl 2 rfl) ?_
    refine lv_iconst (v := 4) hx hb dX8_resize_11 (by decide) ?_
    refine lv_bipush (v := 16) hx hb dX8_resize_12 (by decide) ?_
    refine r_cR hS (r_runS (n := 3) (As := [.int y, .int (4 : Int32), .int (16 : Int32)]) (rest := []) CF hK hH (c_X8_isWithin l G σ y (4 : Int32) (16 : Int32)) gX8_resize_X8_isWithin rfl rfl rfl (by decide +kernel) ⟨⟨Nat.le_of_ble_eq_true rfl, Nat.le_of_ble_eq_true rfl⟩, Nat.le_of_ble_eq_true rfl, Nat.le_of_ble_eq_true rfl⟩ rfl hl.1 rfl (Nat.le_of_ble_eq_true rfl) dX8_resize_14) (fun H locs hH hS => ?_)
    refine r_ifneB (tgt := 23) hx hb dX8_resize_17 (by decide) (fun c17 => ?_) (fun c17 => ?_)
    · refine lv_aload_n hx hb dX8_resize_23 rfl (lv_at hl 0 rfl) ?_
      refine r_get CF hK hH 20 (Nat.le_of_ble_eq_true rfl) rfl rfl JX8 0 (by decide) K1 rfl dX8_resize_24 ?_
      refine lv_iload_n hx hb dX8_resize_27 rfl (lv_at hl 1 rfl) ?_
      refine lv_iload_n hx hb dX8_resize_28 rfl (lv_at hl 2 rfl) ?_
      refine r_cV hS (r_runV (n := 2) (As := [.int x, .int y]) (rest := []) CF hK hH (c_X7_flatten l G σ x y) gX8_resize_X7_flatten rfl rfl rfl rfl (by decide +kernel) ⟨⟨Nat.le_of_ble_eq_true rfl, Nat.le_of_ble_eq_true rfl⟩, Nat.le_of_ble_eq_true rfl, Nat.le_of_ble_eq_true rfl⟩ 21 rfl (Nat.le_of_ble_eq_true rfl) rfl rfl rfl hl.1 rfl (Nat.le_of_ble_eq_true rfl) dX8_resize_29) (fun H locs hH hS => ?_)
      refine lv_aload_n hx hb dX8_resize_32 rfl (lv_at hl 0 rfl) ?_
      refine r_get CF hK hH 20 (Nat.le_of_ble_eq_true rfl) rfl rfl JX8 3 (by decide) K2 rfl dX8_resize_33 ?_
      refine r_cV hS (r_runV (n := 0) (As := []) (rest := []) CF hK hH (c_X6_clear l G (va_up (u2 (u2 σ 21 0 x) 21 1 y) 22 (zr (σ 22) 160)) 0 (by decide)) gX8_resize_X6_clear rfl rfl rfl rfl (by decide +kernel) ⟨⟨Nat.le_of_ble_eq_true rfl, Nat.le_of_ble_eq_true rfl⟩, Nat.le_of_ble_eq_true rfl, Nat.le_of_ble_eq_true rfl⟩ (16 + 0) rfl (by omega) (we_l G (by decide) _) rfl rfl hl.1 rfl (Nat.le_of_ble_eq_true rfl) dX8_resize_36) (fun H locs hH hS => ?_)
      refine lv_iload_n hx hb dX8_resize_39 rfl (lv_at hl 1 rfl) ?_
      refine lv_iload_n hx hb dX8_resize_40 rfl (lv_at hl 2 rfl) ?_
      refine lv_imul hx hb dX8_resize_41 ?_
      exact r_iret CF hr hlk hH hS dX8_resize_42 ⟨by simp [aRes, c7, c17], by simp [c7, c17]⟩
    · refine lv_bipush (v := (-4)) hx hb dX8_resize_20 (by decide) ?_
      exact r_iret CF hr hlk hH hS dX8_resize_22 ⟨by simp [aRes, c7, c17], by simp [c7, c17]⟩

set_option maxRecDepth 100000 in
set_option maxHeartbeats 4000000 in
theorem c_X8_setHeight (l : Launch) (G : Gm) (σ : Sg) (R C n : Nat) (sq : Nat → S4) (hA : CA σ R C n sq) (x y h : Int32) : Met l yX8_setHeight wsX8_setHeight (rmO 1 24) (PP G [.ref (G.2.1 20), .int x, .int y, .int h] σ) (QI G (RV (aSetH R C (σ 22) x y h) (if (inB x R && inB y C) && isW h 0 999 then u2 σ 22 (16 * NN x + NN y) h else σ))) 0 0 (fr G) := by
  refine r_start (cc := cX8_setHeight) (maxL := 5) (ret := (some .int)) (by decide) rfl (Nat.le_of_ble_eq_true rfl) ?_
  intro pz ez sz mz below meth cz ls CF hr hlk hK hH hS hl
  have CF : CallFix pz mz cz cX8_setHeight 5 sz (List.toArray [.ref (G.2.1 20), .int x, .int y, .int h]) wsX8_setHeight RX8 := CF
  have hx := CF.1
  have hb := CF.2.1
  have hown := CF.2.2.2.1
  have hts := CF.2.2.2.2
  have hl : lv_has ls 5 [(0, .ref (G.2.1 20)), (1, .int x), (2, .int y), (3, .int h)] := hl
  have K1 := hts _ (List.mem_of_getElem? (i := 1) rfl)
  have JX8 : ∀ w ∈ wsX80, w ∈ wsX8_setHeight := in_r _ [22, 23, 24, 25, 26, 27, 28] (by decide +kernel)
  obtain ⟨hR, hC, hR3, hR10, hC4, hC16, hh, hL⟩ := hA
  have hn : σ (16 + 0) 0 = nI n := hL.1
  have hn8 := hL.2.1
  refine lv_aload_n hx hb dX8_setHeight_0 rfl (lv_at hl 0 rfl) ?_
  refine r_get CF hK hH 20 (Nat.le_of_ble_eq_true rfl) rfl rfl JX8 0 (by decide) K1 rfl dX8_setHeight_1 ?_
  refine lv_iload_n hx hb dX8_setHeight_4 rfl (lv_at hl 1 rfl) ?_
  refine lv_iload_n hx hb dX8_setHeight_5 rfl (lv_at hl 2 rfl) ?_
  refine r_cR hS (r_runV (n := 2) (As := [.int x, .int y]) (rest := []) CF hK hH (c_X7_contains l G σ x y) gX8_setHeight_X7_contains rfl rfl rfl rfl (by decide +kernel) ⟨⟨Nat.le_of_ble_eq_true rfl, Nat.le_of_ble_eq_true rfl⟩, Nat.le_of_ble_eq_true rfl, Nat.le_of_ble_eq_true rfl⟩ 21 rfl (Nat.le_of_ble_eq_true rfl) rfl rfl rfl hl.1 rfl (Nat.le_of_ble_eq_true rfl) dX8_setHeight_6) (fun H locs hH hS => ?_)
  refine r_top (show (b2i (isC σ x y) : Int32) = b2i (inB x R && inB y C) from (by rw [isC_eq hR hC])) ?_
  refine r_ifneB (tgt := 14) hx hb dX8_setHeight_9 (by decide) (fun c9 => ?_) (fun c9 => ?_)
  · obtain ⟨r, c, hr1, hc1, ex, ey, exN, eyN⟩ := inC_of c9 hR10 hC16
    refine lv_iload_n hx hb dX8_setHeight_14 rfl (lv_at hl 3 rfl) ?_
    refine lv_iconst (v := 0) hx hb dX8_setHeight_15 (by decide) ?_
    refine lv_sipush (v := 999) hx hb dX8_setHeight_16 (by decide) ?_
    refine r_cR hS (r_runS (n := 3) (As := [.int h, .int (0 : Int32), .int (999 : Int32)]) (rest := []) CF hK hH (c_X8_isWithin l G σ h (0 : Int32) (999 : Int32)) gX8_setHeight_X8_isWithin rfl rfl rfl (by decide +kernel) ⟨⟨Nat.le_of_ble_eq_true rfl, Nat.le_of_ble_eq_true rfl⟩, Nat.le_of_ble_eq_true rfl, Nat.le_of_ble_eq_true rfl⟩ rfl hl.1 rfl (Nat.le_of_ble_eq_true rfl) dX8_setHeight_19) (fun H locs hH hS => ?_)
    refine r_ifneB (tgt := 28) hx hb dX8_setHeight_22 (by decide) (fun c22 => ?_) (fun c22 => ?_)
    · refine lv_aload_n hx hb dX8_setHeight_28 rfl (lv_at hl 0 rfl) ?_
      refine r_get CF hK hH 20 (Nat.le_of_ble_eq_true rfl) rfl rfl JX8 0 (by decide) K1 rfl dX8_setHeight_29 ?_
      refine lv_iload_n hx hb dX8_setHeight_32 rfl (lv_at hl 1 rfl) ?_
      refine r_top (show (x : Int32) = nI r from ex) ?_
      refine lv_iload_n hx hb dX8_setHeight_33 rfl (lv_at hl 2 rfl) ?_
      refine r_top (show (y : Int32) = nI c from ey) ?_
      refine r_cR hS (r_runV (n := 2) (As := [.int (nI r), .int (nI c)]) (rest := []) CF hK hH (c_X7_heightAt l G σ r c (by omega) (by omega)) gX8_setHeight_X7_heightAt rfl rfl rfl rfl (by decide +kernel) ⟨⟨Nat.le_of_ble_eq_true rfl, Nat.le_of_ble_eq_true rfl⟩, Nat.le_of_ble_eq_true rfl, Nat.le_of_ble_eq_true rfl⟩ 21 rfl (Nat.le_of_ble_eq_true rfl) rfl rfl rfl hl.1 rfl (Nat.le_of_ble_eq_true rfl) dX8_setHeight_34) (fun H locs hH hS => ?_)
      refine lv_istore (lv' := [(4, .int (σ 22 (16 * r + c))), (0, .ref (G.2.1 20)), (1, .int x), (2, .int y), (3, .int h)]) hx hb dX8_setHeight_37 hl (by decide) rfl (fun ls hl => ?_)
      refine lv_aload_n hx hb dX8_setHeight_39 rfl (lv_at hl 1 rfl) ?_
      refine r_get CF hK hH 20 (Nat.le_of_ble_eq_true rfl) rfl rfl JX8 0 (by decide) K1 rfl dX8_setHeight_40 ?_
      refine lv_iload_n hx hb dX8_setHeight_43 rfl (lv_at hl 2 rfl) ?_
      refine r_top (show (x : Int32) = nI r from ex) ?_
      refine lv_iload_n hx hb dX8_setHeight_44 rfl (lv_at hl 3 rfl) ?_
      refine r_top (show (y : Int32) = nI c from ey) ?_
      refine lv_iload_n hx hb dX8_setHeight_45 rfl (lv_at hl 4 rfl) ?_
      refine r_cV hS (r_runV (n := 3) (As := [.int (nI r), .int (nI c), .int h]) (rest := []) CF hK hH (c_X7_put l G σ r c h (by omega) (by omega)) gX8_setHeight_X7_put rfl rfl rfl rfl (by decide +kernel) ⟨⟨Nat.le_of_ble_eq_true rfl, Nat.le_of_ble_eq_true rfl⟩, Nat.le_of_ble_eq_true rfl, Nat.le_of_ble_eq_true rfl⟩ 21 rfl (Nat.le_of_ble_eq_true rfl) rfl rfl rfl hl.1 rfl (Nat.le_of_ble_eq_true rfl) dX8_setHeight_46) (fun H locs hH hS => ?_)
      refine lv_iload hx hb dX8_setHeight_49 (lv_at hl 0 rfl) ?_
      exact r_iret CF hr hlk hH hS dX8_setHeight_51 ⟨by simp [aSetH, c9, c22, exN, eyN], by simp [c9, c22, exN, eyN]⟩
    · refine lv_bipush (v := (-4)) hx hb dX8_setHeight_25 (by decide) ?_
      exact r_iret CF hr hlk hH hS dX8_setHeight_27 ⟨by simp [aSetH, c9, c22], by simp [c9, c22]⟩
  · refine lv_iconst (v := (-1)) hx hb dX8_setHeight_12 (by decide) ?_
    exact r_iret CF hr hlk hH hS dX8_setHeight_13 ⟨by simp [aSetH, c9], by simp [c9]⟩

set_option maxRecDepth 100000 in
set_option maxHeartbeats 4000000 in
theorem c_X8_height (l : Launch) (G : Gm) (σ : Sg) (R C n : Nat) (sq : Nat → S4) (hA : CA σ R C n sq) (x y : Int32) : Met l yX8_height wsX8_height (rmO 1 23) (PP G [.ref (G.2.1 20), .int x, .int y] σ) (QI G (RV (aHgt R C (σ 22) x y) σ)) 0 0 (fr G) := by
  refine r_start (cc := cX8_height) (maxL := 3) (ret := (some .int)) (by decide) rfl (Nat.le_of_ble_eq_true rfl) ?_
  intro pz ez sz mz below meth cz ls CF hr hlk hK hH hS hl
  have CF : CallFix pz mz cz cX8_height 3 sz (List.toArray [.ref (G.2.1 20), .int x, .int y]) wsX8_height RX8 := CF
  have hx := CF.1
  have hb := CF.2.1
  have hown := CF.2.2.2.1
  have hts := CF.2.2.2.2
  have hl : lv_has ls 3 [(0, .ref (G.2.1 20)), (1, .int x), (2, .int y)] := hl
  have K1 := hts _ (List.mem_of_getElem? (i := 1) rfl)
  have JX8 : ∀ w ∈ wsX80, w ∈ wsX8_height := in_r _ [14, 15, 16, 17, 18, 19, 20] (by decide +kernel)
  obtain ⟨hR, hC, hR3, hR10, hC4, hC16, hh, hL⟩ := hA
  have hn : σ (16 + 0) 0 = nI n := hL.1
  have hn8 := hL.2.1
  refine lv_aload_n hx hb dX8_height_0 rfl (lv_at hl 0 rfl) ?_
  refine r_get CF hK hH 20 (Nat.le_of_ble_eq_true rfl) rfl rfl JX8 0 (by decide) K1 rfl dX8_height_1 ?_
  refine lv_iload_n hx hb dX8_height_4 rfl (lv_at hl 1 rfl) ?_
  refine lv_iload_n hx hb dX8_height_5 rfl (lv_at hl 2 rfl) ?_
  refine r_cR hS (r_runV (n := 2) (As := [.int x, .int y]) (rest := []) CF hK hH (c_X7_contains l G σ x y) gX8_height_X7_contains rfl rfl rfl rfl (by decide +kernel) ⟨⟨Nat.le_of_ble_eq_true rfl, Nat.le_of_ble_eq_true rfl⟩, Nat.le_of_ble_eq_true rfl, Nat.le_of_ble_eq_true rfl⟩ 21 rfl (Nat.le_of_ble_eq_true rfl) rfl rfl rfl hl.1 rfl (Nat.le_of_ble_eq_true rfl) dX8_height_6) (fun H locs hH hS => ?_)
  refine r_top (show (b2i (isC σ x y) : Int32) = b2i (inB x R && inB y C) from (by rw [isC_eq hR hC])) ?_
  refine r_ifneB (tgt := 14) hx hb dX8_height_9 (by decide) (fun c9 => ?_) (fun c9 => ?_)
  · obtain ⟨r, c, hr1, hc1, ex, ey, exN, eyN⟩ := inC_of c9 hR10 hC16
    refine lv_aload_n hx hb dX8_height_14 rfl (lv_at hl 0 rfl) ?_
    refine r_get CF hK hH 20 (Nat.le_of_ble_eq_true rfl) rfl rfl JX8 0 (by decide) K1 rfl dX8_height_15 ?_
    refine lv_iload_n hx hb dX8_height_18 rfl (lv_at hl 1 rfl) ?_
    refine r_top (show (x : Int32) = nI r from ex) ?_
    refine lv_iload_n hx hb dX8_height_19 rfl (lv_at hl 2 rfl) ?_
    refine r_top (show (y : Int32) = nI c from ey) ?_
    refine r_cR hS (r_runV (n := 2) (As := [.int (nI r), .int (nI c)]) (rest := []) CF hK hH (c_X7_heightAt l G σ r c (by omega) (by omega)) gX8_height_X7_heightAt rfl rfl rfl rfl (by decide +kernel) ⟨⟨Nat.le_of_ble_eq_true rfl, Nat.le_of_ble_eq_true rfl⟩, Nat.le_of_ble_eq_true rfl, Nat.le_of_ble_eq_true rfl⟩ 21 rfl (Nat.le_of_ble_eq_true rfl) rfl rfl rfl hl.1 rfl (Nat.le_of_ble_eq_true rfl) dX8_height_20) (fun H locs hH hS => ?_)
    exact r_iret CF hr hlk hH hS dX8_height_23 ⟨by simp [aHgt, c9, exN, eyN], rfl⟩
  · refine lv_iconst (v := (-1)) hx hb dX8_height_12 (by decide) ?_
    exact r_iret CF hr hlk hH hS dX8_height_13 ⟨by simp [aHgt, c9], rfl⟩

set_option maxRecDepth 100000 in
set_option maxHeartbeats 4000000 in
theorem c_X8_setAltitude (l : Launch) (G : Gm) (σ : Sg) (x : Int32) : Met l yX8_setAltitude wsX8_setAltitude (rmO 1 22) (PP G [.ref (G.2.1 20), .int x] σ) (QI G (RV (aAlt (σ 23 0) x) (if isW x 100 5000 then u2 σ 23 0 x else σ))) 0 0 (fr G) := by
  refine r_start (cc := cX8_setAltitude) (maxL := 3) (ret := (some .int)) (by decide) rfl (Nat.le_of_ble_eq_true rfl) ?_
  intro pz ez sz mz below meth cz ls CF hr hlk hK hH hS hl
  have CF : CallFix pz mz cz cX8_setAltitude 3 sz (List.toArray [.ref (G.2.1 20), .int x]) wsX8_setAltitude RX8 := CF
  have hx := CF.1
  have hb := CF.2.1
  have hown := CF.2.2.2.1
  have hts := CF.2.2.2.2
  have hl : lv_has ls 3 [(0, .ref (G.2.1 20)), (1, .int x)] := hl
  have K1 := hts _ (List.mem_of_getElem? (i := 1) rfl)
  have K2 := hts _ (List.mem_of_getElem? (i := 2) rfl)
  have JX1 : ∀ w ∈ wsX10, w ∈ wsX8_setAltitude := in_r _ [14, 15, 16, 17] (by decide +kernel)
  have JX8 : ∀ w ∈ wsX80, w ∈ wsX8_setAltitude := in_r _ [7, 8, 9, 10, 11, 12, 13] (by decide +kernel)
  refine lv_iload_n hx hb dX8_setAltitude_0 rfl (lv_at hl 1 rfl) ?_
  refine lv_bipush (v := 100) hx hb dX8_setAltitude_1 (by decide) ?_
  refine lv_sipush (v := 5000) hx hb dX8_setAltitude_3 (by decide) ?_
  refine r_cR hS (r_runS (n := 3) (As := [.int x, .int (100 : Int32), .int (5000 : Int32)]) (rest := []) CF hK hH (c_X8_isWithin l G σ x (100 : Int32) (5000 : Int32)) gX8_setAltitude_X8_isWithin rfl rfl rfl (by decide +kernel) ⟨⟨Nat.le_of_ble_eq_true rfl, Nat.le_of_ble_eq_true rfl⟩, Nat.le_of_ble_eq_true rfl, Nat.le_of_ble_eq_true rfl⟩ rfl hl.1 rfl (Nat.le_of_ble_eq_true rfl) dX8_setAltitude_6) (fun H locs hH hS => ?_)
  refine r_ifneB (tgt := 15) hx hb dX8_setAltitude_9 (by decide) (fun c9 => ?_) (fun c9 => ?_)
  · refine lv_aload_n hx hb dX8_setAltitude_15 rfl (lv_at hl 0 rfl) ?_
    refine r_get CF hK hH 20 (Nat.le_of_ble_eq_true rfl) rfl rfl JX8 1 (by decide) K1 rfl dX8_setAltitude_16 ?_
    refine r_get CF hK hH 23 (Nat.le_of_ble_eq_true rfl) rfl rfl JX1 0 (by decide) K2 rfl dX8_setAltitude_19 ?_
    refine lv_istore_n (lv' := [(2, .int (σ 23 0)), (0, .ref (G.2.1 20)), (1, .int x)]) hx hb dX8_setAltitude_22 rfl hl (by decide) rfl (fun ls hl => ?_)
    refine lv_aload_n hx hb dX8_setAltitude_23 rfl (lv_at hl 1 rfl) ?_
    refine r_get CF hK hH 20 (Nat.le_of_ble_eq_true rfl) rfl rfl JX8 1 (by decide) K1 rfl dX8_setAltitude_24 ?_
    refine lv_iload_n hx hb dX8_setAltitude_27 rfl (lv_at hl 2 rfl) ?_
    refine r_put CF hK hH hS 23 (Nat.le_of_ble_eq_true rfl) rfl rfl JX1 tyX1 tyX1_ok nmX1 0 (by decide) K2 rfl (by decide +kernel) (Nat.le_of_ble_eq_true rfl) rfl dX8_setAltitude_28 (fun H locs hH hS => ?_)
    refine lv_iload_n hx hb dX8_setAltitude_31 rfl (lv_at hl 0 rfl) ?_
    exact r_iret CF hr hlk hH hS dX8_setAltitude_32 ⟨by simp [aAlt, c9], by simp [c9]⟩
  · refine lv_bipush (v := (-4)) hx hb dX8_setAltitude_12 (by decide) ?_
    exact r_iret CF hr hlk hH hS dX8_setAltitude_14 ⟨by simp [aAlt, c9], by simp [c9]⟩

set_option maxRecDepth 100000 in
set_option maxHeartbeats 4000000 in
theorem c_X8_setFields (l : Launch) (G : Gm) (σ : Sg) (x y : Int32) : Met l yX8_setFields wsX8_setFields (rmO 1 22) (PP G [.ref (G.2.1 20), .int x, .int y] σ) (QI G (RV (aFld (σ 23 1) (σ 23 2) x y) (if isW x 1 50 && isW y 1 50 then u2 (u2 σ 23 1 x) 23 2 y else σ))) 0 0 (fr G) := by
  refine r_start (cc := cX8_setFields) (maxL := 4) (ret := (some .int)) (by decide) rfl (Nat.le_of_ble_eq_true rfl) ?_
  intro pz ez sz mz below meth cz ls CF hr hlk hK hH hS hl
  have CF : CallFix pz mz cz cX8_setFields 4 sz (List.toArray [.ref (G.2.1 20), .int x, .int y]) wsX8_setFields RX8 := CF
  have hx := CF.1
  have hb := CF.2.1
  have hown := CF.2.2.2.1
  have hts := CF.2.2.2.2
  have hl : lv_has ls 4 [(0, .ref (G.2.1 20)), (1, .int x), (2, .int y)] := hl
  have K1 := hts _ (List.mem_of_getElem? (i := 1) rfl)
  have K2 := hts _ (List.mem_of_getElem? (i := 2) rfl)
  have K3 := hts _ (List.mem_of_getElem? (i := 3) rfl)
  have JX1 : ∀ w ∈ wsX10, w ∈ wsX8_setFields := in_r _ [15, 16, 17, 18] (by decide +kernel)
  have JX8 : ∀ w ∈ wsX80, w ∈ wsX8_setFields := in_r _ [8, 9, 10, 11, 12, 13, 14] (by decide +kernel)
  refine lv_iload_n hx hb dX8_setFields_0 rfl (lv_at hl 1 rfl) ?_
  refine lv_iconst (v := 1) hx hb dX8_setFields_1 (by decide) ?_
  refine lv_bipush (v := 50) hx hb dX8_setFields_2 (by decide) ?_
  refine r_cR hS (r_runS (n := 3) (As := [.int x, .int (1 : Int32), .int (50 : Int32)]) (rest := []) CF hK hH (c_X8_isWithin l G σ x (1 : Int32) (50 : Int32)) gX8_setFields_X8_isWithin rfl rfl rfl (by decide +kernel) ⟨⟨Nat.le_of_ble_eq_true rfl, Nat.le_of_ble_eq_true rfl⟩, Nat.le_of_ble_eq_true rfl, Nat.le_of_ble_eq_true rfl⟩ rfl hl.1 rfl (Nat.le_of_ble_eq_true rfl) dX8_setFields_4) (fun H locs hH hS => ?_)
  refine r_ifeqB (tgt := 20) hx hb dX8_setFields_7 (by decide) (fun c7 => ?_) (fun c7 => ?_)
  · refine lv_bipush (v := (-4)) hx hb dX8_setFields_20 (by decide) ?_
    exact r_iret CF hr hlk hH hS dX8_setFields_22 ⟨by simp [aFld, c7], by simp [c7]⟩
  · refine lv_iload_n hx hb dX8_setFields_10 rfl (lv_at hl 2 rfl) ?_
    refine lv_iconst (v := 1) hx hb dX8_setFields_11 (by decide) ?_
    refine lv_bipush (v := 50) hx hb dX8_setFields_12 (by decide) ?_
    refine r_cR hS (r_runS (n := 3) (As := [.int y, .int (1 : Int32), .int (50 : Int32)]) (rest := []) CF hK hH (c_X8_isWithin l G σ y (1 : Int32) (50 : Int32)) gX8_setFields_X8_isWithin rfl rfl rfl (by decide +kernel) ⟨⟨Nat.le_of_ble_eq_true rfl, Nat.le_of_ble_eq_true rfl⟩, Nat.le_of_ble_eq_true rfl, Nat.le_of_ble_eq_true rfl⟩ rfl hl.1 rfl (Nat.le_of_ble_eq_true rfl) dX8_setFields_14) (fun H locs hH hS => ?_)
    refine r_ifneB (tgt := 23) hx hb dX8_setFields_17 (by decide) (fun c17 => ?_) (fun c17 => ?_)
    · refine lv_aload_n hx hb dX8_setFields_23 rfl (lv_at hl 0 rfl) ?_
      refine r_get CF hK hH 20 (Nat.le_of_ble_eq_true rfl) rfl rfl JX8 1 (by decide) K1 rfl dX8_setFields_24 ?_
      refine r_get CF hK hH 23 (Nat.le_of_ble_eq_true rfl) rfl rfl JX1 1 (by decide) K2 rfl dX8_setFields_27 ?_
      refine lv_iload_n hx hb dX8_setFields_30 rfl (lv_at hl 1 rfl) ?_
      refine lv_icmp_ne (tgt := 45) hx hb dX8_setFields_31 (by decide) (fun c31 => ?_) (fun c31 => ?_)
      · refine lv_iconst (v := 1) hx hb dX8_setFields_45 (by decide) ?_
        refine lv_goto (tgt := 50) hx hb dX8_setFields_46 (by decide) ?_
        refine lv_istore_n (lv' := [(3, .int (1 : Int32)), (0, .ref (G.2.1 20)), (1, .int x), (2, .int y)]) hx hb dX8_setFields_50 rfl hl (by decide) rfl (fun ls hl => ?_)
        refine lv_aload_n hx hb dX8_setFields_51 rfl (lv_at hl 1 rfl) ?_
        refine r_get CF hK hH 20 (Nat.le_of_ble_eq_true rfl) rfl rfl JX8 1 (by decide) K1 rfl dX8_setFields_52 ?_
        refine lv_iload_n hx hb dX8_setFields_55 rfl (lv_at hl 2 rfl) ?_
        refine r_put CF hK hH hS 23 (Nat.le_of_ble_eq_true rfl) rfl rfl JX1 tyX1 tyX1_ok nmX1 1 (by decide) K2 rfl (by decide +kernel) (Nat.le_of_ble_eq_true rfl) rfl dX8_setFields_56 (fun H locs hH hS => ?_)
        refine lv_aload_n hx hb dX8_setFields_59 rfl (lv_at hl 1 rfl) ?_
        refine r_get CF hK hH 20 (Nat.le_of_ble_eq_true rfl) rfl rfl JX8 1 (by decide) K1 rfl dX8_setFields_60 ?_
        refine lv_iload_n hx hb dX8_setFields_63 rfl (lv_at hl 3 rfl) ?_
        refine r_put CF hK hH hS 23 (Nat.le_of_ble_eq_true rfl) rfl rfl JX1 tyX1 tyX1_ok nmX1 2 (by decide) K3 rfl (by decide +kernel) (Nat.le_of_ble_eq_true rfl) rfl dX8_setFields_64 (fun H locs hH hS => ?_)
        refine lv_iload_n hx hb dX8_setFields_67 rfl (lv_at hl 0 rfl) ?_
        refine lv_if_eq (tgt := 75) hx hb dX8_setFields_68 (by decide) (fun c68 => ?_) (fun c68 => ?_)
        · exact absurd c68 (by decide)
        · refine lv_iconst (v := 1) hx hb dX8_setFields_71 (by decide) ?_
          refine lv_goto (tgt := 76) hx hb dX8_setFields_72 (by decide) ?_
          exact r_iret CF hr hlk hH hS dX8_setFields_76 ⟨by simp [aFld, c7, c17, c31, c68], by simp [c7, c17, c31, c68]⟩
      · refine lv_aload_n hx hb dX8_setFields_34 rfl (lv_at hl 0 rfl) ?_
        refine r_get CF hK hH 20 (Nat.le_of_ble_eq_true rfl) rfl rfl JX8 1 (by decide) K1 rfl dX8_setFields_35 ?_
        refine r_get CF hK hH 23 (Nat.le_of_ble_eq_true rfl) rfl rfl JX1 2 (by decide) K3 rfl dX8_setFields_38 ?_
        refine lv_iload_n hx hb dX8_setFields_41 rfl (lv_at hl 2 rfl) ?_
        refine lv_icmp_eq (tgt := 49) hx hb dX8_setFields_42 (by decide) (fun c42 => ?_) (fun c42 => ?_)
        · refine lv_iconst (v := 0) hx hb dX8_setFields_49 (by decide) ?_
          refine lv_istore_n (lv' := [(3, .int (0 : Int32)), (0, .ref (G.2.1 20)), (1, .int x), (2, .int y)]) hx hb dX8_setFields_50 rfl hl (by decide) rfl (fun ls hl => ?_)
          refine lv_aload_n hx hb dX8_setFields_51 rfl (lv_at hl 1 rfl) ?_
          refine r_get CF hK hH 20 (Nat.le_of_ble_eq_true rfl) rfl rfl JX8 1 (by decide) K1 rfl dX8_setFields_52 ?_
          refine lv_iload_n hx hb dX8_setFields_55 rfl (lv_at hl 2 rfl) ?_
          refine r_put CF hK hH hS 23 (Nat.le_of_ble_eq_true rfl) rfl rfl JX1 tyX1 tyX1_ok nmX1 1 (by decide) K2 rfl (by decide +kernel) (Nat.le_of_ble_eq_true rfl) rfl dX8_setFields_56 (fun H locs hH hS => ?_)
          refine lv_aload_n hx hb dX8_setFields_59 rfl (lv_at hl 1 rfl) ?_
          refine r_get CF hK hH 20 (Nat.le_of_ble_eq_true rfl) rfl rfl JX8 1 (by decide) K1 rfl dX8_setFields_60 ?_
          refine lv_iload_n hx hb dX8_setFields_63 rfl (lv_at hl 3 rfl) ?_
          refine r_put CF hK hH hS 23 (Nat.le_of_ble_eq_true rfl) rfl rfl JX1 tyX1 tyX1_ok nmX1 2 (by decide) K3 rfl (by decide +kernel) (Nat.le_of_ble_eq_true rfl) rfl dX8_setFields_64 (fun H locs hH hS => ?_)
          refine lv_iload_n hx hb dX8_setFields_67 rfl (lv_at hl 0 rfl) ?_
          refine lv_if_eq (tgt := 75) hx hb dX8_setFields_68 (by decide) (fun c68 => ?_) (fun c68 => ?_)
          · refine lv_iconst (v := 0) hx hb dX8_setFields_75 (by decide) ?_
            exact r_iret CF hr hlk hH hS dX8_setFields_76 ⟨by simp [aFld, c7, c17, c31, c42, c68], by simp [c7, c17, c31, c42, c68]⟩
          · exact absurd rfl c68
        · refine lv_iconst (v := 1) hx hb dX8_setFields_45 (by decide) ?_
          refine lv_goto (tgt := 50) hx hb dX8_setFields_46 (by decide) ?_
          refine lv_istore_n (lv' := [(3, .int (1 : Int32)), (0, .ref (G.2.1 20)), (1, .int x), (2, .int y)]) hx hb dX8_setFields_50 rfl hl (by decide) rfl (fun ls hl => ?_)
          refine lv_aload_n hx hb dX8_setFields_51 rfl (lv_at hl 1 rfl) ?_
          refine r_get CF hK hH 20 (Nat.le_of_ble_eq_true rfl) rfl rfl JX8 1 (by decide) K1 rfl dX8_setFields_52 ?_
          refine lv_iload_n hx hb dX8_setFields_55 rfl (lv_at hl 2 rfl) ?_
          refine r_put CF hK hH hS 23 (Nat.le_of_ble_eq_true rfl) rfl rfl JX1 tyX1 tyX1_ok nmX1 1 (by decide) K2 rfl (by decide +kernel) (Nat.le_of_ble_eq_true rfl) rfl dX8_setFields_56 (fun H locs hH hS => ?_)
          refine lv_aload_n hx hb dX8_setFields_59 rfl (lv_at hl 1 rfl) ?_
          refine r_get CF hK hH 20 (Nat.le_of_ble_eq_true rfl) rfl rfl JX8 1 (by decide) K1 rfl dX8_setFields_60 ?_
          refine lv_iload_n hx hb dX8_setFields_63 rfl (lv_at hl 3 rfl) ?_
          refine r_put CF hK hH hS 23 (Nat.le_of_ble_eq_true rfl) rfl rfl JX1 tyX1 tyX1_ok nmX1 2 (by decide) K3 rfl (by decide +kernel) (Nat.le_of_ble_eq_true rfl) rfl dX8_setFields_64 (fun H locs hH hS => ?_)
          refine lv_iload_n hx hb dX8_setFields_67 rfl (lv_at hl 0 rfl) ?_
          refine lv_if_eq (tgt := 75) hx hb dX8_setFields_68 (by decide) (fun c68 => ?_) (fun c68 => ?_)
          · exact absurd c68 (by decide)
          · refine lv_iconst (v := 1) hx hb dX8_setFields_71 (by decide) ?_
            refine lv_goto (tgt := 76) hx hb dX8_setFields_72 (by decide) ?_
            exact r_iret CF hr hlk hH hS dX8_setFields_76 ⟨by simp [aFld, c7, c17, c31, c42, c68], by simp [c7, c17, c31, c42, c68]⟩
    · refine lv_bipush (v := (-4)) hx hb dX8_setFields_20 (by decide) ?_
      exact r_iret CF hr hlk hH hS dX8_setFields_22 ⟨by simp [aFld, c7, c17], by simp [c7, c17]⟩

set_option maxRecDepth 100000 in
set_option maxHeartbeats 4000000 in
theorem c_X8_setCrab (l : Launch) (G : Gm) (σ : Sg) (x : Int32) : Met l yX8_setCrab wsX8_setCrab (rmO 1 22) (PP G [.ref (G.2.1 20), .int x] σ) (QI G (RV (aCrb (σ 23 3) x) (if isW x (-100) 100 then u2 σ 23 3 x else σ))) 0 0 (fr G) := by
  refine r_start (cc := cX8_setCrab) (maxL := 3) (ret := (some .int)) (by decide) rfl (Nat.le_of_ble_eq_true rfl) ?_
  intro pz ez sz mz below meth cz ls CF hr hlk hK hH hS hl
  have CF : CallFix pz mz cz cX8_setCrab 3 sz (List.toArray [.ref (G.2.1 20), .int x]) wsX8_setCrab RX8 := CF
  have hx := CF.1
  have hb := CF.2.1
  have hown := CF.2.2.2.1
  have hts := CF.2.2.2.2
  have hl : lv_has ls 3 [(0, .ref (G.2.1 20)), (1, .int x)] := hl
  have K1 := hts _ (List.mem_of_getElem? (i := 1) rfl)
  have K2 := hts _ (List.mem_of_getElem? (i := 2) rfl)
  have JX1 : ∀ w ∈ wsX10, w ∈ wsX8_setCrab := in_r _ [14, 15, 16, 17] (by decide +kernel)
  have JX8 : ∀ w ∈ wsX80, w ∈ wsX8_setCrab := in_r _ [7, 8, 9, 10, 11, 12, 13] (by decide +kernel)
  refine lv_iload_n hx hb dX8_setCrab_0 rfl (lv_at hl 1 rfl) ?_
  refine lv_bipush (v := (-100)) hx hb dX8_setCrab_1 (by decide) ?_
  refine lv_bipush (v := 100) hx hb dX8_setCrab_3 (by decide) ?_
  refine r_cR hS (r_runS (n := 3) (As := [.int x, .int (-100 : Int32), .int (100 : Int32)]) (rest := []) CF hK hH (c_X8_isWithin l G σ x (-100 : Int32) (100 : Int32)) gX8_setCrab_X8_isWithin rfl rfl rfl (by decide +kernel) ⟨⟨Nat.le_of_ble_eq_true rfl, Nat.le_of_ble_eq_true rfl⟩, Nat.le_of_ble_eq_true rfl, Nat.le_of_ble_eq_true rfl⟩ rfl hl.1 rfl (Nat.le_of_ble_eq_true rfl) dX8_setCrab_5) (fun H locs hH hS => ?_)
  refine r_ifneB (tgt := 14) hx hb dX8_setCrab_8 (by decide) (fun c8 => ?_) (fun c8 => ?_)
  · refine lv_aload_n hx hb dX8_setCrab_14 rfl (lv_at hl 0 rfl) ?_
    refine r_get CF hK hH 20 (Nat.le_of_ble_eq_true rfl) rfl rfl JX8 1 (by decide) K1 rfl dX8_setCrab_15 ?_
    refine r_get CF hK hH 23 (Nat.le_of_ble_eq_true rfl) rfl rfl JX1 3 (by decide) K2 rfl dX8_setCrab_18 ?_
    refine lv_iload_n hx hb dX8_setCrab_21 rfl (lv_at hl 1 rfl) ?_
    refine lv_icmp_eq (tgt := 29) hx hb dX8_setCrab_22 (by decide) (fun c22 => ?_) (fun c22 => ?_)
    · refine lv_iconst (v := 0) hx hb dX8_setCrab_29 (by decide) ?_
      refine lv_istore_n (lv' := [(2, .int (0 : Int32)), (0, .ref (G.2.1 20)), (1, .int x)]) hx hb dX8_setCrab_30 rfl hl (by decide) rfl (fun ls hl => ?_)
      refine lv_aload_n hx hb dX8_setCrab_31 rfl (lv_at hl 1 rfl) ?_
      refine r_get CF hK hH 20 (Nat.le_of_ble_eq_true rfl) rfl rfl JX8 1 (by decide) K1 rfl dX8_setCrab_32 ?_
      refine lv_iload_n hx hb dX8_setCrab_35 rfl (lv_at hl 2 rfl) ?_
      refine r_put CF hK hH hS 23 (Nat.le_of_ble_eq_true rfl) rfl rfl JX1 tyX1 tyX1_ok nmX1 3 (by decide) K2 rfl (by decide +kernel) (Nat.le_of_ble_eq_true rfl) rfl dX8_setCrab_36 (fun H locs hH hS => ?_)
      refine lv_iload_n hx hb dX8_setCrab_39 rfl (lv_at hl 0 rfl) ?_
      refine lv_if_eq (tgt := 47) hx hb dX8_setCrab_40 (by decide) (fun c40 => ?_) (fun c40 => ?_)
      · refine lv_iconst (v := 0) hx hb dX8_setCrab_47 (by decide) ?_
        exact r_iret CF hr hlk hH hS dX8_setCrab_48 ⟨by simp [aCrb, c8, c22, c40], by simp [c8, c22, c40]⟩
      · exact absurd rfl c40
    · refine lv_iconst (v := 1) hx hb dX8_setCrab_25 (by decide) ?_
      refine lv_goto (tgt := 30) hx hb dX8_setCrab_26 (by decide) ?_
      refine lv_istore_n (lv' := [(2, .int (1 : Int32)), (0, .ref (G.2.1 20)), (1, .int x)]) hx hb dX8_setCrab_30 rfl hl (by decide) rfl (fun ls hl => ?_)
      refine lv_aload_n hx hb dX8_setCrab_31 rfl (lv_at hl 1 rfl) ?_
      refine r_get CF hK hH 20 (Nat.le_of_ble_eq_true rfl) rfl rfl JX8 1 (by decide) K1 rfl dX8_setCrab_32 ?_
      refine lv_iload_n hx hb dX8_setCrab_35 rfl (lv_at hl 2 rfl) ?_
      refine r_put CF hK hH hS 23 (Nat.le_of_ble_eq_true rfl) rfl rfl JX1 tyX1 tyX1_ok nmX1 3 (by decide) K2 rfl (by decide +kernel) (Nat.le_of_ble_eq_true rfl) rfl dX8_setCrab_36 (fun H locs hH hS => ?_)
      refine lv_iload_n hx hb dX8_setCrab_39 rfl (lv_at hl 0 rfl) ?_
      refine lv_if_eq (tgt := 47) hx hb dX8_setCrab_40 (by decide) (fun c40 => ?_) (fun c40 => ?_)
      · exact absurd c40 (by decide)
      · refine lv_iconst (v := 1) hx hb dX8_setCrab_43 (by decide) ?_
        refine lv_goto (tgt := 48) hx hb dX8_setCrab_44 (by decide) ?_
        exact r_iret CF hr hlk hH hS dX8_setCrab_48 ⟨by simp [aCrb, c8, c22, c40], by simp [c8, c22, c40]⟩
  · refine lv_bipush (v := (-4)) hx hb dX8_setCrab_11 (by decide) ?_
    exact r_iret CF hr hlk hH hS dX8_setCrab_13 ⟨by simp [aCrb, c8], by simp [c8]⟩

set_option maxRecDepth 100000 in
set_option maxHeartbeats 4000000 in
theorem c_X8_setSpeed (l : Launch) (G : Gm) (σ : Sg) (x y z : Int32) : Met l yX8_setSpeed wsX8_setSpeed (rmO 1 22) (PP G [.ref (G.2.1 20), .int x, .int y, .int z] σ) (QI G (RV (aSpd (σ 24 0) (σ 24 1) (σ 24 2) x y z) (if isW x 50 300 && (isW y (-40) 40 && isW z 0 500) then u2 (u2 (u2 σ 24 0 x) 24 1 y) 24 2 z else σ))) 0 0 (fr G) := by
  refine r_start (cc := cX8_setSpeed) (maxL := 5) (ret := (some .int)) (by decide) rfl (Nat.le_of_ble_eq_true rfl) ?_
  intro pz ez sz mz below meth cz ls CF hr hlk hK hH hS hl
  have CF : CallFix pz mz cz cX8_setSpeed 5 sz (List.toArray [.ref (G.2.1 20), .int x, .int y, .int z]) wsX8_setSpeed RX8 := CF
  have hx := CF.1
  have hb := CF.2.1
  have hown := CF.2.2.2.1
  have hts := CF.2.2.2.2
  have hl : lv_has ls 5 [(0, .ref (G.2.1 20)), (1, .int x), (2, .int y), (3, .int z)] := hl
  have K1 := hts _ (List.mem_of_getElem? (i := 1) rfl)
  have K2 := hts _ (List.mem_of_getElem? (i := 2) rfl)
  have K3 := hts _ (List.mem_of_getElem? (i := 3) rfl)
  have K4 := hts _ (List.mem_of_getElem? (i := 4) rfl)
  have JX0 : ∀ w ∈ wsX00, w ∈ wsX8_setSpeed := in_r _ [16, 17, 18] (by decide +kernel)
  have JX8 : ∀ w ∈ wsX80, w ∈ wsX8_setSpeed := in_r _ [9, 10, 11, 12, 13, 14, 15] (by decide +kernel)
  refine lv_iload_n hx hb dX8_setSpeed_0 rfl (lv_at hl 1 rfl) ?_
  refine lv_bipush (v := 50) hx hb dX8_setSpeed_1 (by decide) ?_
  refine lv_sipush (v := 300) hx hb dX8_setSpeed_3 (by decide) ?_
  refine r_cR hS (r_runS (n := 3) (As := [.int x, .int (50 : Int32), .int (300 : Int32)]) (rest := []) CF hK hH (c_X8_isWithin l G σ x (50 : Int32) (300 : Int32)) gX8_setSpeed_X8_isWithin rfl rfl rfl (by decide +kernel) ⟨⟨Nat.le_of_ble_eq_true rfl, Nat.le_of_ble_eq_true rfl⟩, Nat.le_of_ble_eq_true rfl, Nat.le_of_ble_eq_true rfl⟩ rfl hl.1 rfl (Nat.le_of_ble_eq_true rfl) dX8_setSpeed_6) (fun H locs hH hS => ?_)
  refine r_ifeqB (tgt := 34) hx hb dX8_setSpeed_9 (by decide) (fun c9 => ?_) (fun c9 => ?_)
  · refine lv_bipush (v := (-4)) hx hb dX8_setSpeed_34 (by decide) ?_
    exact r_iret CF hr hlk hH hS dX8_setSpeed_36 ⟨by simp [aSpd, c9], by simp [c9]⟩
  · refine lv_iload_n hx hb dX8_setSpeed_12 rfl (lv_at hl 2 rfl) ?_
    refine lv_bipush (v := (-40)) hx hb dX8_setSpeed_13 (by decide) ?_
    refine lv_bipush (v := 40) hx hb dX8_setSpeed_15 (by decide) ?_
    refine r_cR hS (r_runS (n := 3) (As := [.int y, .int (-40 : Int32), .int (40 : Int32)]) (rest := []) CF hK hH (c_X8_isWithin l G σ y (-40 : Int32) (40 : Int32)) gX8_setSpeed_X8_isWithin rfl rfl rfl (by decide +kernel) ⟨⟨Nat.le_of_ble_eq_true rfl, Nat.le_of_ble_eq_true rfl⟩, Nat.le_of_ble_eq_true rfl, Nat.le_of_ble_eq_true rfl⟩ rfl hl.1 rfl (Nat.le_of_ble_eq_true rfl) dX8_setSpeed_17) (fun H locs hH hS => ?_)
    refine r_ifeqB (tgt := 34) hx hb dX8_setSpeed_20 (by decide) (fun c20 => ?_) (fun c20 => ?_)
    · refine lv_bipush (v := (-4)) hx hb dX8_setSpeed_34 (by decide) ?_
      exact r_iret CF hr hlk hH hS dX8_setSpeed_36 ⟨by simp [aSpd, c9, c20], by simp [c9, c20]⟩
    · refine lv_iload_n hx hb dX8_setSpeed_23 rfl (lv_at hl 3 rfl) ?_
      refine lv_iconst (v := 0) hx hb dX8_setSpeed_24 (by decide) ?_
      refine lv_sipush (v := 500) hx hb dX8_setSpeed_25 (by decide) ?_
      refine r_cR hS (r_runS (n := 3) (As := [.int z, .int (0 : Int32), .int (500 : Int32)]) (rest := []) CF hK hH (c_X8_isWithin l G σ z (0 : Int32) (500 : Int32)) gX8_setSpeed_X8_isWithin rfl rfl rfl (by decide +kernel) ⟨⟨Nat.le_of_ble_eq_true rfl, Nat.le_of_ble_eq_true rfl⟩, Nat.le_of_ble_eq_true rfl, Nat.le_of_ble_eq_true rfl⟩ rfl hl.1 rfl (Nat.le_of_ble_eq_true rfl) dX8_setSpeed_28) (fun H locs hH hS => ?_)
      refine r_ifneB (tgt := 37) hx hb dX8_setSpeed_31 (by decide) (fun c31 => ?_) (fun c31 => ?_)
      · refine lv_aload_n hx hb dX8_setSpeed_37 rfl (lv_at hl 0 rfl) ?_
        refine r_get CF hK hH 20 (Nat.le_of_ble_eq_true rfl) rfl rfl JX8 2 (by decide) K1 rfl dX8_setSpeed_38 ?_
        refine r_get CF hK hH 24 (Nat.le_of_ble_eq_true rfl) rfl rfl JX0 0 (by decide) K2 rfl dX8_setSpeed_41 ?_
        refine lv_iload_n hx hb dX8_setSpeed_44 rfl (lv_at hl 1 rfl) ?_
        refine lv_icmp_ne (tgt := 70) hx hb dX8_setSpeed_45 (by decide) (fun c45 => ?_) (fun c45 => ?_)
        · refine lv_iconst (v := 1) hx hb dX8_setSpeed_70 (by decide) ?_
          refine lv_goto (tgt := 75) hx hb dX8_setSpeed_71 (by decide) ?_
          refine lv_istore (lv' := [(4, .int (1 : Int32)), (0, .ref (G.2.1 20)), (1, .int x), (2, .int y), (3, .int z)]) hx hb dX8_setSpeed_75 hl (by decide) rfl (fun ls hl => ?_)
          refine lv_aload_n hx hb dX8_setSpeed_77 rfl (lv_at hl 1 rfl) ?_
          refine r_get CF hK hH 20 (Nat.le_of_ble_eq_true rfl) rfl rfl JX8 2 (by decide) K1 rfl dX8_setSpeed_78 ?_
          refine lv_iload_n hx hb dX8_setSpeed_81 rfl (lv_at hl 2 rfl) ?_
          refine r_put CF hK hH hS 24 (Nat.le_of_ble_eq_true rfl) rfl rfl JX0 tyX0 tyX0_ok nmX0 0 (by decide) K2 rfl (by decide +kernel) (Nat.le_of_ble_eq_true rfl) rfl dX8_setSpeed_82 (fun H locs hH hS => ?_)
          refine lv_aload_n hx hb dX8_setSpeed_85 rfl (lv_at hl 1 rfl) ?_
          refine r_get CF hK hH 20 (Nat.le_of_ble_eq_true rfl) rfl rfl JX8 2 (by decide) K1 rfl dX8_setSpeed_86 ?_
          refine lv_iload_n hx hb dX8_setSpeed_89 rfl (lv_at hl 3 rfl) ?_
          refine r_put CF hK hH hS 24 (Nat.le_of_ble_eq_true rfl) rfl rfl JX0 tyX0 tyX0_ok nmX0 1 (by decide) K3 rfl (by decide +kernel) (Nat.le_of_ble_eq_true rfl) rfl dX8_setSpeed_90 (fun H locs hH hS => ?_)
          refine lv_aload_n hx hb dX8_setSpeed_93 rfl (lv_at hl 1 rfl) ?_
          refine r_get CF hK hH 20 (Nat.le_of_ble_eq_true rfl) rfl rfl JX8 2 (by decide) K1 rfl dX8_setSpeed_94 ?_
          refine lv_iload_n hx hb dX8_setSpeed_97 rfl (lv_at hl 4 rfl) ?_
          refine r_put CF hK hH hS 24 (Nat.le_of_ble_eq_true rfl) rfl rfl JX0 tyX0 tyX0_ok nmX0 2 (by decide) K4 rfl (by decide +kernel) (Nat.le_of_ble_eq_true rfl) rfl dX8_setSpeed_98 (fun H locs hH hS => ?_)
          refine lv_iload hx hb dX8_setSpeed_101 (lv_at hl 0 rfl) ?_
          refine lv_if_eq (tgt := 110) hx hb dX8_setSpeed_103 (by decide) (fun c103 => ?_) (fun c103 => ?_)
          · exact absurd c103 (by decide)
          · refine lv_iconst (v := 1) hx hb dX8_setSpeed_106 (by decide) ?_
            refine lv_goto (tgt := 111) hx hb dX8_setSpeed_107 (by decide) ?_
            exact r_iret CF hr hlk hH hS dX8_setSpeed_111 ⟨by simp [aSpd, c9, c20, c31, c45, c103], by simp [c9, c20, c31, c45, c103]⟩
        · refine lv_aload_n hx hb dX8_setSpeed_48 rfl (lv_at hl 0 rfl) ?_
          refine r_get CF hK hH 20 (Nat.le_of_ble_eq_true rfl) rfl rfl JX8 2 (by decide) K1 rfl dX8_setSpeed_49 ?_
          refine r_get CF hK hH 24 (Nat.le_of_ble_eq_true rfl) rfl rfl JX0 1 (by decide) K3 rfl dX8_setSpeed_52 ?_
          refine lv_iload_n hx hb dX8_setSpeed_55 rfl (lv_at hl 2 rfl) ?_
          refine lv_icmp_ne (tgt := 70) hx hb dX8_setSpeed_56 (by decide) (fun c56 => ?_) (fun c56 => ?_)
          · refine lv_iconst (v := 1) hx hb dX8_setSpeed_70 (by decide) ?_
            refine lv_goto (tgt := 75) hx hb dX8_setSpeed_71 (by decide) ?_
            refine lv_istore (lv' := [(4, .int (1 : Int32)), (0, .ref (G.2.1 20)), (1, .int x), (2, .int y), (3, .int z)]) hx hb dX8_setSpeed_75 hl (by decide) rfl (fun ls hl => ?_)
            refine lv_aload_n hx hb dX8_setSpeed_77 rfl (lv_at hl 1 rfl) ?_
            refine r_get CF hK hH 20 (Nat.le_of_ble_eq_true rfl) rfl rfl JX8 2 (by decide) K1 rfl dX8_setSpeed_78 ?_
            refine lv_iload_n hx hb dX8_setSpeed_81 rfl (lv_at hl 2 rfl) ?_
            refine r_put CF hK hH hS 24 (Nat.le_of_ble_eq_true rfl) rfl rfl JX0 tyX0 tyX0_ok nmX0 0 (by decide) K2 rfl (by decide +kernel) (Nat.le_of_ble_eq_true rfl) rfl dX8_setSpeed_82 (fun H locs hH hS => ?_)
            refine lv_aload_n hx hb dX8_setSpeed_85 rfl (lv_at hl 1 rfl) ?_
            refine r_get CF hK hH 20 (Nat.le_of_ble_eq_true rfl) rfl rfl JX8 2 (by decide) K1 rfl dX8_setSpeed_86 ?_
            refine lv_iload_n hx hb dX8_setSpeed_89 rfl (lv_at hl 3 rfl) ?_
            refine r_put CF hK hH hS 24 (Nat.le_of_ble_eq_true rfl) rfl rfl JX0 tyX0 tyX0_ok nmX0 1 (by decide) K3 rfl (by decide +kernel) (Nat.le_of_ble_eq_true rfl) rfl dX8_setSpeed_90 (fun H locs hH hS => ?_)
            refine lv_aload_n hx hb dX8_setSpeed_93 rfl (lv_at hl 1 rfl) ?_
            refine r_get CF hK hH 20 (Nat.le_of_ble_eq_true rfl) rfl rfl JX8 2 (by decide) K1 rfl dX8_setSpeed_94 ?_
            refine lv_iload_n hx hb dX8_setSpeed_97 rfl (lv_at hl 4 rfl) ?_
            refine r_put CF hK hH hS 24 (Nat.le_of_ble_eq_true rfl) rfl rfl JX0 tyX0 tyX0_ok nmX0 2 (by decide) K4 rfl (by decide +kernel) (Nat.le_of_ble_eq_true rfl) rfl dX8_setSpeed_98 (fun H locs hH hS => ?_)
            refine lv_iload hx hb dX8_setSpeed_101 (lv_at hl 0 rfl) ?_
            refine lv_if_eq (tgt := 110) hx hb dX8_setSpeed_103 (by decide) (fun c103 => ?_) (fun c103 => ?_)
            · exact absurd c103 (by decide)
            · refine lv_iconst (v := 1) hx hb dX8_setSpeed_106 (by decide) ?_
              refine lv_goto (tgt := 111) hx hb dX8_setSpeed_107 (by decide) ?_
              exact r_iret CF hr hlk hH hS dX8_setSpeed_111 ⟨by simp [aSpd, c9, c20, c31, c45, c56, c103], by simp [c9, c20, c31, c45, c56, c103]⟩
          · refine lv_aload_n hx hb dX8_setSpeed_59 rfl (lv_at hl 0 rfl) ?_
            refine r_get CF hK hH 20 (Nat.le_of_ble_eq_true rfl) rfl rfl JX8 2 (by decide) K1 rfl dX8_setSpeed_60 ?_
            refine r_get CF hK hH 24 (Nat.le_of_ble_eq_true rfl) rfl rfl JX0 2 (by decide) K4 rfl dX8_setSpeed_63 ?_
            refine lv_iload_n hx hb dX8_setSpeed_66 rfl (lv_at hl 3 rfl) ?_
            refine lv_icmp_eq (tgt := 74) hx hb dX8_setSpeed_67 (by decide) (fun c67 => ?_) (fun c67 => ?_)
            · refine lv_iconst (v := 0) hx hb dX8_setSpeed_74 (by decide) ?_
              refine lv_istore (lv' := [(4, .int (0 : Int32)), (0, .ref (G.2.1 20)), (1, .int x), (2, .int y), (3, .int z)]) hx hb dX8_setSpeed_75 hl (by decide) rfl (fun ls hl => ?_)
              refine lv_aload_n hx hb dX8_setSpeed_77 rfl (lv_at hl 1 rfl) ?_
              refine r_get CF hK hH 20 (Nat.le_of_ble_eq_true rfl) rfl rfl JX8 2 (by decide) K1 rfl dX8_setSpeed_78 ?_
              refine lv_iload_n hx hb dX8_setSpeed_81 rfl (lv_at hl 2 rfl) ?_
              refine r_put CF hK hH hS 24 (Nat.le_of_ble_eq_true rfl) rfl rfl JX0 tyX0 tyX0_ok nmX0 0 (by decide) K2 rfl (by decide +kernel) (Nat.le_of_ble_eq_true rfl) rfl dX8_setSpeed_82 (fun H locs hH hS => ?_)
              refine lv_aload_n hx hb dX8_setSpeed_85 rfl (lv_at hl 1 rfl) ?_
              refine r_get CF hK hH 20 (Nat.le_of_ble_eq_true rfl) rfl rfl JX8 2 (by decide) K1 rfl dX8_setSpeed_86 ?_
              refine lv_iload_n hx hb dX8_setSpeed_89 rfl (lv_at hl 3 rfl) ?_
              refine r_put CF hK hH hS 24 (Nat.le_of_ble_eq_true rfl) rfl rfl JX0 tyX0 tyX0_ok nmX0 1 (by decide) K3 rfl (by decide +kernel) (Nat.le_of_ble_eq_true rfl) rfl dX8_setSpeed_90 (fun H locs hH hS => ?_)
              refine lv_aload_n hx hb dX8_setSpeed_93 rfl (lv_at hl 1 rfl) ?_
              refine r_get CF hK hH 20 (Nat.le_of_ble_eq_true rfl) rfl rfl JX8 2 (by decide) K1 rfl dX8_setSpeed_94 ?_
              refine lv_iload_n hx hb dX8_setSpeed_97 rfl (lv_at hl 4 rfl) ?_
              refine r_put CF hK hH hS 24 (Nat.le_of_ble_eq_true rfl) rfl rfl JX0 tyX0 tyX0_ok nmX0 2 (by decide) K4 rfl (by decide +kernel) (Nat.le_of_ble_eq_true rfl) rfl dX8_setSpeed_98 (fun H locs hH hS => ?_)
              refine lv_iload hx hb dX8_setSpeed_101 (lv_at hl 0 rfl) ?_
              refine lv_if_eq (tgt := 110) hx hb dX8_setSpeed_103 (by decide) (fun c103 => ?_) (fun c103 => ?_)
              · refine lv_iconst (v := 0) hx hb dX8_setSpeed_110 (by decide) ?_
                exact r_iret CF hr hlk hH hS dX8_setSpeed_111 ⟨by simp [aSpd, c9, c20, c31, c45, c56, c67, c103], by simp [c9, c20, c31, c45, c56, c67, c103]⟩
              · exact absurd rfl c103
            · refine lv_iconst (v := 1) hx hb dX8_setSpeed_70 (by decide) ?_
              refine lv_goto (tgt := 75) hx hb dX8_setSpeed_71 (by decide) ?_
              refine lv_istore (lv' := [(4, .int (1 : Int32)), (0, .ref (G.2.1 20)), (1, .int x), (2, .int y), (3, .int z)]) hx hb dX8_setSpeed_75 hl (by decide) rfl (fun ls hl => ?_)
              refine lv_aload_n hx hb dX8_setSpeed_77 rfl (lv_at hl 1 rfl) ?_
              refine r_get CF hK hH 20 (Nat.le_of_ble_eq_true rfl) rfl rfl JX8 2 (by decide) K1 rfl dX8_setSpeed_78 ?_
              refine lv_iload_n hx hb dX8_setSpeed_81 rfl (lv_at hl 2 rfl) ?_
              refine r_put CF hK hH hS 24 (Nat.le_of_ble_eq_true rfl) rfl rfl JX0 tyX0 tyX0_ok nmX0 0 (by decide) K2 rfl (by decide +kernel) (Nat.le_of_ble_eq_true rfl) rfl dX8_setSpeed_82 (fun H locs hH hS => ?_)
              refine lv_aload_n hx hb dX8_setSpeed_85 rfl (lv_at hl 1 rfl) ?_
              refine r_get CF hK hH 20 (Nat.le_of_ble_eq_true rfl) rfl rfl JX8 2 (by decide) K1 rfl dX8_setSpeed_86 ?_
              refine lv_iload_n hx hb dX8_setSpeed_89 rfl (lv_at hl 3 rfl) ?_
              refine r_put CF hK hH hS 24 (Nat.le_of_ble_eq_true rfl) rfl rfl JX0 tyX0 tyX0_ok nmX0 1 (by decide) K3 rfl (by decide +kernel) (Nat.le_of_ble_eq_true rfl) rfl dX8_setSpeed_90 (fun H locs hH hS => ?_)
              refine lv_aload_n hx hb dX8_setSpeed_93 rfl (lv_at hl 1 rfl) ?_
              refine r_get CF hK hH 20 (Nat.le_of_ble_eq_true rfl) rfl rfl JX8 2 (by decide) K1 rfl dX8_setSpeed_94 ?_
              refine lv_iload_n hx hb dX8_setSpeed_97 rfl (lv_at hl 4 rfl) ?_
              refine r_put CF hK hH hS 24 (Nat.le_of_ble_eq_true rfl) rfl rfl JX0 tyX0 tyX0_ok nmX0 2 (by decide) K4 rfl (by decide +kernel) (Nat.le_of_ble_eq_true rfl) rfl dX8_setSpeed_98 (fun H locs hH hS => ?_)
              refine lv_iload hx hb dX8_setSpeed_101 (lv_at hl 0 rfl) ?_
              refine lv_if_eq (tgt := 110) hx hb dX8_setSpeed_103 (by decide) (fun c103 => ?_) (fun c103 => ?_)
              · exact absurd c103 (by decide)
              · refine lv_iconst (v := 1) hx hb dX8_setSpeed_106 (by decide) ?_
                refine lv_goto (tgt := 111) hx hb dX8_setSpeed_107 (by decide) ?_
                exact r_iret CF hr hlk hH hS dX8_setSpeed_111 ⟨by simp [aSpd, c9, c20, c31, c45, c56, c67, c103], by simp [c9, c20, c31, c45, c56, c67, c103]⟩
      · refine lv_bipush (v := (-4)) hx hb dX8_setSpeed_34 (by decide) ?_
        exact r_iret CF hr hlk hH hS dX8_setSpeed_36 ⟨by simp [aSpd, c9, c20, c31], by simp [c9, c20, c31]⟩
