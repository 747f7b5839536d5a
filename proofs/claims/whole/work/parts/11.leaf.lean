def isW (v a b : Int32) : Bool := !decide (v < a) && !decide (b < v)
def quo (a b : Int32) : Int32 := if b ≤ 0 then 0 else a / b

set_option maxRecDepth 100000 in
set_option maxHeartbeats 4000000 in
theorem c_X8_isWithin (l : Launch) (G : Gm) (σ : Sg) (v a b : Int32) : Met l yX8_isWithin wsX8_isWithin (rmO 0 0) (PP G [.int v, .int a, .int b] σ) (QI G (RV (b2i (isW v a b)) σ)) 0 0 (fr G) := by
  refine r_start (cc := cX8_isWithin) (maxL := 3) (ret := (some .boolean)) (by decide) rfl (Nat.le_of_ble_eq_true rfl) ?_
  intro pz ez sz mz below meth cz ls CF hr hlk hK hH hS hl
  have CF : CallFix pz mz cz cX8_isWithin 3 sz (List.toArray [.int v, .int a, .int b]) wsX8_isWithin RX8 := CF
  have hx := CF.1
  have hb := CF.2.1
  have hown := CF.2.2.2.1
  have hts := CF.2.2.2.2
  have hl : lv_has ls 3 [(0, .int v), (1, .int a), (2, .int b)] := hl
  refine lv_iload_n hx hb dX8_isWithin_0 rfl (lv_at hl 0 rfl) ?_
  refine lv_iload_n hx hb dX8_isWithin_1 rfl (lv_at hl 1 rfl) ?_
  refine lv_icmp_lt (tgt := 14) hx hb dX8_isWithin_2 (by decide) (fun c2 => ?_) (fun c2 => ?_)
  · refine lv_iconst (v := 0) hx hb dX8_isWithin_14 (by decide) ?_
    exact r_zret CF hr hlk hH hS rfl dX8_isWithin_15 ⟨by simp [isW, b2i, c2], rfl⟩
  · refine lv_iload_n hx hb dX8_isWithin_5 rfl (lv_at hl 0 rfl) ?_
    refine lv_iload_n hx hb dX8_isWithin_6 rfl (lv_at hl 2 rfl) ?_
    refine lv_icmp_gt (tgt := 14) hx hb dX8_isWithin_7 (by decide) (fun c7 => ?_) (fun c7 => ?_)
    · refine lv_iconst (v := 0) hx hb dX8_isWithin_14 (by decide) ?_
      exact r_zret CF hr hlk hH hS rfl dX8_isWithin_15 ⟨by simp [isW, b2i, c2, c7], rfl⟩
    · refine lv_iconst (v := 1) hx hb dX8_isWithin_10 (by decide) ?_
      refine lv_goto (tgt := 15) hx hb dX8_isWithin_11 (by decide) ?_
      exact r_zret CF hr hlk hH hS rfl dX8_isWithin_15 ⟨by simp [isW, b2i, c2, c7], rfl⟩

set_option maxRecDepth 100000 in
set_option maxHeartbeats 4000000 in
theorem c_X8_quotient (l : Launch) (G : Gm) (σ : Sg) (a b : Int32) : Met l yX8_quotient wsX8_quotient (rmO 0 0) (PP G [.int a, .int b] σ) (QI G (RV (quo a b) σ)) 0 0 (fr G) := by
  refine r_start (cc := cX8_quotient) (maxL := 2) (ret := (some .int)) (by decide) rfl (Nat.le_of_ble_eq_true rfl) ?_
  intro pz ez sz mz below meth cz ls CF hr hlk hK hH hS hl
  have CF : CallFix pz mz cz cX8_quotient 2 sz (List.toArray [.int a, .int b]) wsX8_quotient RX8 := CF
  have hx := CF.1
  have hb := CF.2.1
  have hown := CF.2.2.2.1
  have hts := CF.2.2.2.2
  have hl : lv_has ls 2 [(0, .int a), (1, .int b)] := hl
  refine lv_iload_n hx hb dX8_quotient_0 rfl (lv_at hl 1 rfl) ?_
  refine lv_if_le (tgt := 10) hx hb dX8_quotient_1 (by decide) (fun c1 => ?_) (fun c1 => ?_)
  · refine lv_iconst (v := 0) hx hb dX8_quotient_10 (by decide) ?_
    exact r_iret CF hr hlk hH hS dX8_quotient_11 ⟨by simp [quo, c1], rfl⟩
  · refine lv_iload_n hx hb dX8_quotient_4 rfl (lv_at hl 0 rfl) ?_
    refine lv_iload_n hx hb dX8_quotient_5 rfl (lv_at hl 1 rfl) ?_
    refine lv_idiv hx hb dX8_quotient_6 (fun h => c1 (by rw [h]; decide)) ?_
    refine lv_goto (tgt := 11) hx hb dX8_quotient_7 (by decide) ?_
    exact r_iret CF hr hlk hH hS dX8_quotient_11 ⟨by simp [quo, c1], rfl⟩

def isC (σ : Sg) (r c : Int32) : Bool := !decide (r < 0) && !decide (σ 21 0 ≤ r) && !decide (c < 0) && !decide (σ 21 1 ≤ c)

set_option maxRecDepth 100000 in
set_option maxHeartbeats 4000000 in
theorem c_X7_contains (l : Launch) (G : Gm) (σ : Sg) (x y : Int32) : Met l yX7_contains wsX7_contains (rmO 0 0) (PP G [.ref (G.2.1 21), .int x, .int y] σ) (QI G (RV (b2i (isC σ x y)) σ)) 0 0 (fr G) := by
  refine r_start (cc := cX7_contains) (maxL := 3) (ret := (some .boolean)) (by decide) rfl (Nat.le_of_ble_eq_true rfl) ?_
  intro pz ez sz mz below meth cz ls CF hr hlk hK hH hS hl
  have CF : CallFix pz mz cz cX7_contains 3 sz (List.toArray [.ref (G.2.1 21), .int x, .int y]) wsX7_contains RX7 := CF
  have hx := CF.1
  have hb := CF.2.1
  have hown := CF.2.2.2.1
  have hts := CF.2.2.2.2
  have hl : lv_has ls 3 [(0, .ref (G.2.1 21)), (1, .int x), (2, .int y)] := hl
  have K1 := hts _ (List.mem_of_getElem? (i := 1) rfl)
  have K2 := hts _ (List.mem_of_getElem? (i := 2) rfl)
  have JX7 : ∀ w ∈ wsX70, w ∈ wsX7_contains := in_r _ [3, 4, 5] (by decide +kernel)
  refine lv_iload_n hx hb dX7_contains_0 rfl (lv_at hl 1 rfl) ?_
  refine lv_if_lt (tgt := 28) hx hb dX7_contains_1 (by decide) (fun c1 => ?_) (fun c1 => ?_)
  · refine lv_iconst (v := 0) hx hb dX7_contains_28 (by decide) ?_
    exact r_zret CF hr hlk hH hS rfl dX7_contains_29 ⟨by simp [isC, b2i, c1], rfl⟩
  · refine lv_iload_n hx hb dX7_contains_4 rfl (lv_at hl 1 rfl) ?_
    refine lv_aload_n hx hb dX7_contains_5 rfl (lv_at hl 0 rfl) ?_
    refine r_get CF hK hH 21 (Nat.le_of_ble_eq_true rfl) rfl rfl JX7 0 (by decide) K1 rfl dX7_contains_6 ?_
    refine lv_icmp_ge (tgt := 28) hx hb dX7_contains_9 (by decide) (fun c9 => ?_) (fun c9 => ?_)
    · refine lv_iconst (v := 0) hx hb dX7_contains_28 (by decide) ?_
      exact r_zret CF hr hlk hH hS rfl dX7_contains_29 ⟨by simp [isC, b2i, c1, c9], rfl⟩
    · refine lv_iload_n hx hb dX7_contains_12 rfl (lv_at hl 2 rfl) ?_
      refine lv_if_lt (tgt := 28) hx hb dX7_contains_13 (by decide) (fun c13 => ?_) (fun c13 => ?_)
      · refine lv_iconst (v := 0) hx hb dX7_contains_28 (by decide) ?_
        exact r_zret CF hr hlk hH hS rfl dX7_contains_29 ⟨by simp [isC, b2i, c1, c9, c13], rfl⟩
      · refine lv_iload_n hx hb dX7_contains_16 rfl (lv_at hl 2 rfl) ?_
        refine lv_aload_n hx hb dX7_contains_17 rfl (lv_at hl 0 rfl) ?_
        refine r_get CF hK hH 21 (Nat.le_of_ble_eq_true rfl) rfl rfl JX7 1 (by decide) K2 rfl dX7_contains_18 ?_
        refine lv_icmp_ge (tgt := 28) hx hb dX7_contains_21 (by decide) (fun c21 => ?_) (fun c21 => ?_)
        · refine lv_iconst (v := 0) hx hb dX7_contains_28 (by decide) ?_
          exact r_zret CF hr hlk hH hS rfl dX7_contains_29 ⟨by simp [isC, b2i, c1, c9, c13, c21], rfl⟩
        · refine lv_iconst (v := 1) hx hb dX7_contains_24 (by decide) ?_
          refine lv_goto (tgt := 29) hx hb dX7_contains_25 (by decide) ?_
          exact r_zret CF hr hlk hH hS rfl dX7_contains_29 ⟨by simp [isC, b2i, c1, c9, c13, c21], rfl⟩
