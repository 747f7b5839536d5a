set_option maxRecDepth 100000 in
set_option maxHeartbeats 4000000 in
theorem c_X8_addStrip (l : Launch) (G : Gm) (σ : Sg) (R C n : Nat) (sq : Nat → S4) (hA : CA σ R C n sq) (x f h w : Int32) : Met l yX8_addStrip wsX8_addStrip (rmO 2 49) (PP G [.ref (G.2.1 20), .int x, .int f, .int h, .int w] σ) (QI G (fun r σ' => r = aAdd R C n x f h w ∧ σ' = (if 0 ≤ aAdd R C n x f h w then addF σ 0 n x f h w else σ))) 0 0 (fr G) := by
  refine r_start (cc := cX8_addStrip) (maxL := 5) (ret := (some .int)) (by decide) rfl (Nat.le_of_ble_eq_true rfl) ?_
  intro pz ez sz mz below meth cz ls CF hr hlk hK hH hS hl
  have CF : CallFix pz mz cz cX8_addStrip 5 sz (List.toArray [.ref (G.2.1 20), .int x, .int f, .int h, .int w]) wsX8_addStrip RX8 := CF
  have hx := CF.1
  have hb := CF.2.1
  have hown := CF.2.2.2.1
  have hts := CF.2.2.2.2
  have hl : lv_has ls 5 [(0, .ref (G.2.1 20)), (1, .int x), (2, .int f), (3, .int h), (4, .int w)] := hl
  have K1 := hts _ (List.mem_of_getElem? (i := 1) rfl)
  have K2 := hts _ (List.mem_of_getElem? (i := 2) rfl)
  have JX8 : ∀ w ∈ wsX80, w ∈ wsX8_addStrip := in_r _ [34, 35, 36, 37, 38, 39, 40] (by decide +kernel)
  obtain ⟨hR, hC, hR3, hR10, hC4, hC16, hh, hL⟩ := hA
  have hn : σ (16 + 0) 0 = nI n := hL.1
  have hn8 := hL.2.1
  refine lv_aload_n hx hb dX8_addStrip_0 rfl (lv_at hl 0 rfl) ?_
  refine r_get CF hK hH 20 (Nat.le_of_ble_eq_true rfl) rfl rfl JX8 0 (by decide) K1 rfl dX8_addStrip_1 ?_
  refine lv_iload_n hx hb dX8_addStrip_4 rfl (lv_at hl 1 rfl) ?_
  refine lv_iload_n hx hb dX8_addStrip_5 rfl (lv_at hl 2 rfl) ?_
  refine r_cR hS (r_runV (n := 2) (As := [.int x, .int f]) (rest := []) CF hK hH (c_X7_contains l G σ x f) gX8_addStrip_X7_contains rfl rfl rfl rfl (by decide +kernel) ⟨⟨Nat.le_of_ble_eq_true rfl, Nat.le_of_ble_eq_true rfl⟩, Nat.le_of_ble_eq_true rfl, Nat.le_of_ble_eq_true rfl⟩ 21 rfl (Nat.le_of_ble_eq_true rfl) rfl rfl rfl hl.1 rfl (Nat.le_of_ble_eq_true rfl) dX8_addStrip_6) (fun H locs hH hS => ?_)
  refine r_top (show (b2i (isC σ x f) : Int32) = b2i (inB x R && inB f C) from (by rw [isC_eq hR hC])) ?_
  refine r_ifeqB (tgt := 24) hx hb dX8_addStrip_9 (by decide) (fun c9 => ?_) (fun c9 => ?_)
  · refine lv_iconst (v := (-1)) hx hb dX8_addStrip_24 (by decide) ?_
    exact r_iret CF hr hlk hH hS dX8_addStrip_25 (by have e : aAdd R C n x f h w = -1 := (by simp [aAdd, c9]); rw [e]; exact ⟨rfl, rfl⟩)
  · refine lv_aload_n hx hb dX8_addStrip_12 rfl (lv_at hl 0 rfl) ?_
    refine r_get CF hK hH 20 (Nat.le_of_ble_eq_true rfl) rfl rfl JX8 0 (by decide) K1 rfl dX8_addStrip_13 ?_
    refine lv_iload_n hx hb dX8_addStrip_16 rfl (lv_at hl 1 rfl) ?_
    refine lv_iload_n hx hb dX8_addStrip_17 rfl (lv_at hl 3 rfl) ?_
    refine r_cR hS (r_runV (n := 2) (As := [.int x, .int h]) (rest := []) CF hK hH (c_X7_contains l G σ x h) gX8_addStrip_X7_contains rfl rfl rfl rfl (by decide +kernel) ⟨⟨Nat.le_of_ble_eq_true rfl, Nat.le_of_ble_eq_true rfl⟩, Nat.le_of_ble_eq_true rfl, Nat.le_of_ble_eq_true rfl⟩ 21 rfl (Nat.le_of_ble_eq_true rfl) rfl rfl rfl hl.1 rfl (Nat.le_of_ble_eq_true rfl) dX8_addStrip_18) (fun H locs hH hS => ?_)
    refine r_top (show (b2i (isC σ x h) : Int32) = b2i (inB x R && inB h C) from (by rw [isC_eq hR hC])) ?_
    refine r_ifneB (tgt := 26) hx hb dX8_addStrip_21 (by decide) (fun c21 => ?_) (fun c21 => ?_)
    · refine lv_iload_n hx hb dX8_addStrip_26 rfl (lv_at hl 3 rfl) ?_
      refine lv_iload_n hx hb dX8_addStrip_27 rfl (lv_at hl 2 rfl) ?_
      refine lv_icmp_lt (tgt := 42) hx hb dX8_addStrip_28 (by decide) (fun c28 => ?_) (fun c28 => ?_)
      · refine lv_bipush (v := (-4)) hx hb dX8_addStrip_42 (by decide) ?_
        exact r_iret CF hr hlk hH hS dX8_addStrip_44 (by have e : aAdd R C n x f h w = -4 := (by simp [aAdd, c9, c21, c28]); rw [e]; exact ⟨rfl, rfl⟩)
      · refine lv_iload hx hb dX8_addStrip_31 (lv_at hl 4 rfl) ?_
        refine lv_iconst (v := 1) hx hb dX8_addStrip_33 (by decide) ?_
        refine lv_bipush (v := 16) hx hb dX8_addStrip_34 (by decide) ?_
        refine r_cR hS (r_runS (n := 3) (As := [.int w, .int (1 : Int32), .int (16 : Int32)]) (rest := []) CF hK hH (c_X8_isWithin l G σ w (1 : Int32) (16 : Int32)) gX8_addStrip_X8_isWithin rfl rfl rfl (by decide +kernel) ⟨⟨Nat.le_of_ble_eq_true rfl, Nat.le_of_ble_eq_true rfl⟩, Nat.le_of_ble_eq_true rfl, Nat.le_of_ble_eq_true rfl⟩ rfl hl.1 rfl (Nat.le_of_ble_eq_true rfl) dX8_addStrip_36) (fun H locs hH hS => ?_)
        refine r_ifneB (tgt := 45) hx hb dX8_addStrip_39 (by decide) (fun c39 => ?_) (fun c39 => ?_)
        · refine lv_aload_n hx hb dX8_addStrip_45 rfl (lv_at hl 0 rfl) ?_
          refine r_get CF hK hH 20 (Nat.le_of_ble_eq_true rfl) rfl rfl JX8 3 (by decide) K2 rfl dX8_addStrip_46 ?_
          refine lv_iload_n hx hb dX8_addStrip_49 rfl (lv_at hl 1 rfl) ?_
          refine lv_iload_n hx hb dX8_addStrip_50 rfl (lv_at hl 2 rfl) ?_
          refine lv_iload_n hx hb dX8_addStrip_51 rfl (lv_at hl 3 rfl) ?_
          refine lv_iload hx hb dX8_addStrip_52 (lv_at hl 4 rfl) ?_
          refine r_calli hS (r_runV (n := 4) (As := [.int x, .int f, .int h, .int w]) (rest := []) CF hK hH (c_X6_add l G σ 0 (by decide) n hn hn8 x f h w) gX8_addStrip_X6_add rfl rfl rfl rfl (by decide +kernel) ⟨⟨Nat.le_of_ble_eq_true rfl, Nat.le_of_ble_eq_true rfl⟩, Nat.le_of_ble_eq_true rfl, Nat.le_of_ble_eq_true rfl⟩ (16 + 0) rfl (by omega) (we_l G (by decide) _) rfl rfl hl.1 rfl (Nat.le_of_ble_eq_true rfl) dX8_addStrip_54) (fun r54 σ54 H locs hq hH hS => ?_)
          by_cases h8 : n = 8
          · rw [if_pos h8] at hq
            obtain ⟨hr1, hσ1⟩ := hq
            rw [hσ1] at hH
            exact r_iret CF hr hlk hH hS dX8_addStrip_57 (by have e : aAdd R C n x f h w = -5 := (by simp [aAdd, c9, c21, c28, c39, h8]); rw [e]; exact ⟨hr1, rfl⟩)
          · rw [if_neg h8] at hq
            obtain ⟨hr1, hσ1⟩ := hq
            rw [hσ1] at hH
            exact r_iret CF hr hlk hH hS dX8_addStrip_57 (by have e : aAdd R C n x f h w = nI n := (by simp [aAdd, c9, c21, c28, c39, h8]); rw [e, if_pos (nI_pos' (by omega))]; exact ⟨hr1, rfl⟩)
        · refine lv_bipush (v := (-4)) hx hb dX8_addStrip_42 (by decide) ?_
          exact r_iret CF hr hlk hH hS dX8_addStrip_44 (by have e : aAdd R C n x f h w = -4 := (by simp [aAdd, c9, c21, c28, c39]); rw [e]; exact ⟨rfl, rfl⟩)
    · refine lv_iconst (v := (-1)) hx hb dX8_addStrip_24 (by decide) ?_
      exact r_iret CF hr hlk hH hS dX8_addStrip_25 (by have e : aAdd R C n x f h w = -1 := (by simp [aAdd, c9, c21]); rw [e]; exact ⟨rfl, rfl⟩)

set_option maxRecDepth 100000 in
set_option maxHeartbeats 4000000 in
theorem c_X8_removeStrip (l : Launch) (G : Gm) (σ : Sg) (R C n : Nat) (sq : Nat → S4) (hA : CA σ R C n sq) (x : Int32) : Met l yX8_removeStrip wsX8_removeStrip (rmO 3 66) (PP G [.ref (G.2.1 20), .int x] σ) (QI G (RV (aRem n x) (if inB x n then u2 (rmS σ 0 (NN x) (n - 1)) 16 0 (nI (n - 1)) else σ))) 0 0 (fr G) := by
  refine r_start (cc := cX8_removeStrip) (maxL := 2) (ret := (some .int)) (by decide) rfl (Nat.le_of_ble_eq_true rfl) ?_
  intro pz ez sz mz below meth cz ls CF hr hlk hK hH hS hl
  have CF : CallFix pz mz cz cX8_removeStrip 2 sz (List.toArray [.ref (G.2.1 20), .int x]) wsX8_removeStrip RX8 := CF
  have hx := CF.1
  have hb := CF.2.1
  have hown := CF.2.2.2.1
  have hts := CF.2.2.2.2
  have hl : lv_has ls 2 [(0, .ref (G.2.1 20)), (1, .int x)] := hl
  have K1 := hts _ (List.mem_of_getElem? (i := 1) rfl)
  have K2 := hts _ (List.mem_of_getElem? (i := 2) rfl)
  have JX6 : ∀ w ∈ wsX60, w ∈ wsX8_removeStrip := in_r _ [39, 40] (by decide +kernel)
  have JX8 : ∀ w ∈ wsX80, w ∈ wsX8_removeStrip := in_r _ [32, 33, 34, 35, 36, 37, 38] (by decide +kernel)
  obtain ⟨hR, hC, hR3, hR10, hC4, hC16, hh, hL⟩ := hA
  have hn : σ (16 + 0) 0 = nI n := hL.1
  have hn8 := hL.2.1
  refine lv_aload_n hx hb dX8_removeStrip_0 rfl (lv_at hl 0 rfl) ?_
  refine r_get CF hK hH 20 (Nat.le_of_ble_eq_true rfl) rfl rfl JX8 3 (by decide) K1 rfl dX8_removeStrip_1 ?_
  refine lv_iload_n hx hb dX8_removeStrip_4 rfl (lv_at hl 1 rfl) ?_
  refine r_callq hS (r_runV (n := 1) (As := [.int x]) (rest := []) CF hK hH (c_X6_find l G σ 0 (by decide) n hn hn8 x) gX8_removeStrip_X6_find rfl rfl rfl rfl (by decide +kernel) ⟨⟨Nat.le_of_ble_eq_true rfl, Nat.le_of_ble_eq_true rfl⟩, Nat.le_of_ble_eq_true rfl, Nat.le_of_ble_eq_true rfl⟩ (16 + 0) rfl (by omega) (we_l G (by decide) _) rfl rfl hl.1 rfl (Nat.le_of_ble_eq_true rfl) dX8_removeStrip_5) (fun rq5 σq5 H locs hq hH hS => ?_)
  obtain ⟨hσ1, hq⟩ := hq
  rw [hσ1] at hH
  rcases hq with ⟨hn5, hr1⟩ | ⟨j5, hj5, hi5, hr1⟩
  · rw [hr1]
    rw [show va_rf none = Value.null from rfl]
    have hin5 := inB_f hn5
    refine lv_ifnonnullN hx hb dX8_removeStrip_8 ?_
    refine lv_bipush (v := (-2)) hx hb dX8_removeStrip_11 (by decide) ?_
    exact r_iret CF hr hlk hH hS dX8_removeStrip_13 ⟨by simp [aRem, hin5], by simp [hin5]⟩
  · rw [hr1]
    rw [show va_rf (some (G.2.1 (8 * 0 + j5))) = Value.ref (G.2.1 (8 * 0 + j5)) from rfl]
    have hin5 := inB_t hj5 hi5 (by omega)
    have hN5 := N_of hi5 (by omega)
    refine lv_ifnonnull (tgt := 14) hx hb dX8_removeStrip_8 (by decide) ?_
    refine lv_aload_n hx hb dX8_removeStrip_14 rfl (lv_at hl 0 rfl) ?_
    refine r_get CF hK hH 20 (Nat.le_of_ble_eq_true rfl) rfl rfl JX8 3 (by decide) K1 rfl dX8_removeStrip_15 ?_
    refine lv_iload_n hx hb dX8_removeStrip_18 rfl (lv_at hl 1 rfl) ?_
    refine r_top (show (x : Int32) = nI j5 from hi5) ?_
    refine r_cV hS (r_runV (n := 1) (As := [.int (nI j5)]) (rest := []) CF hK hH (c_X6_remove l G σ 0 (by decide) n hn hn8 j5 hj5) gX8_removeStrip_X6_remove rfl rfl rfl rfl (by decide +kernel) ⟨⟨Nat.le_of_ble_eq_true rfl, Nat.le_of_ble_eq_true rfl⟩, Nat.le_of_ble_eq_true rfl, Nat.le_of_ble_eq_true rfl⟩ (16 + 0) rfl (by omega) (we_l G (by decide) _) rfl rfl hl.1 rfl (Nat.le_of_ble_eq_true rfl) dX8_removeStrip_19) (fun H locs hH hS => ?_)
    refine lv_aload_n hx hb dX8_removeStrip_22 rfl (lv_at hl 0 rfl) ?_
    refine r_get CF hK hH 20 (Nat.le_of_ble_eq_true rfl) rfl rfl JX8 3 (by decide) K1 rfl dX8_removeStrip_23 ?_
    refine r_get CF hK hH (16 + 0) (by omega) (we_l G (by decide) _) rfl JX6 0 (by decide) K2 rfl dX8_removeStrip_26 ?_
    refine r_top (show ((u2 (rmS σ 0 j5 (n - 1)) (16 + 0) 0 (nI (n - 1))) (16 + 0) 0 : Int32) = nI (n - 1) from (u2_ss _ _ _ _)) ?_
    exact r_iret CF hr hlk hH hS dX8_removeStrip_29 ⟨by simp [aRem, hin5], by simp [hin5, hN5]⟩

set_option maxRecDepth 100000 in
set_option maxHeartbeats 4000000 in
theorem c_X8_stripCount (l : Launch) (G : Gm) (σ : Sg) (R C n : Nat) (sq : Nat → S4) (hA : CA σ R C n sq) : Met l yX8_stripCount wsX8_stripCount (rmO 0 0) (PP G [.ref (G.2.1 20)] σ) (QI G (RV (nI n) σ)) 0 0 (fr G) := by
  refine r_start (cc := cX8_stripCount) (maxL := 1) (ret := (some .int)) (by decide) rfl (Nat.le_of_ble_eq_true rfl) ?_
  intro pz ez sz mz below meth cz ls CF hr hlk hK hH hS hl
  have CF : CallFix pz mz cz cX8_stripCount 1 sz (List.toArray [.ref (G.2.1 20)]) wsX8_stripCount RX8 := CF
  have hx := CF.1
  have hb := CF.2.1
  have hown := CF.2.2.2.1
  have hts := CF.2.2.2.2
  have hl : lv_has ls 1 [(0, .ref (G.2.1 20))] := hl
  have K1 := hts _ (List.mem_of_getElem? (i := 1) rfl)
  have K2 := hts _ (List.mem_of_getElem? (i := 2) rfl)
  have JX6 : ∀ w ∈ wsX60, w ∈ wsX8_stripCount := in_r _ [10, 11] (by decide +kernel)
  have JX8 : ∀ w ∈ wsX80, w ∈ wsX8_stripCount := in_r _ [3, 4, 5, 6, 7, 8, 9] (by decide +kernel)
  obtain ⟨hR, hC, hR3, hR10, hC4, hC16, hh, hL⟩ := hA
  have hn : σ (16 + 0) 0 = nI n := hL.1
  have hn8 := hL.2.1
  refine lv_aload_n hx hb dX8_stripCount_0 rfl (lv_at hl 0 rfl) ?_
  refine r_get CF hK hH 20 (Nat.le_of_ble_eq_true rfl) rfl rfl JX8 3 (by decide) K1 rfl dX8_stripCount_1 ?_
  refine r_get CF hK hH (16 + 0) (by omega) (we_l G (by decide) _) rfl JX6 0 (by decide) K2 rfl dX8_stripCount_4 ?_
  refine r_top (show (σ (16 + 0) 0 : Int32) = nI n from hn) ?_
  exact r_iret CF hr hlk hH hS dX8_stripCount_7 ⟨rfl, rfl⟩

set_option maxRecDepth 100000 in
set_option maxHeartbeats 4000000 in
theorem c_X8_photoCount (l : Launch) (G : Gm) (σ : Sg) (R C n : Nat) (sq : Nat → S4) (hA : CA σ R C n sq) (x : Int32) : Met l yX8_photoCount wsX8_photoCount (rmO 2 42) (PP G [.ref (G.2.1 20), .int x] σ) (QI G (RV (aPhc n sq x) σ)) 0 0 (fr G) := by
  refine r_start (cc := cX8_photoCount) (maxL := 3) (ret := (some .int)) (by decide) rfl (Nat.le_of_ble_eq_true rfl) ?_
  intro pz ez sz mz below meth cz ls CF hr hlk hK hH hS hl
  have CF : CallFix pz mz cz cX8_photoCount 3 sz (List.toArray [.ref (G.2.1 20), .int x]) wsX8_photoCount RX8 := CF
  have hx := CF.1
  have hb := CF.2.1
  have hown := CF.2.2.2.1
  have hts := CF.2.2.2.2
  have hl : lv_has ls 3 [(0, .ref (G.2.1 20)), (1, .int x)] := hl
  have K1 := hts _ (List.mem_of_getElem? (i := 1) rfl)
  have JX8 : ∀ w ∈ wsX80, w ∈ wsX8_photoCount := in_r _ [24, 25, 26, 27, 28, 29, 30] (by decide +kernel)
  obtain ⟨hR, hC, hR3, hR10, hC4, hC16, hh, hL⟩ := hA
  have hn : σ (16 + 0) 0 = nI n := hL.1
  have hn8 := hL.2.1
  refine lv_aload_n hx hb dX8_photoCount_0 rfl (lv_at hl 0 rfl) ?_
  refine r_get CF hK hH 20 (Nat.le_of_ble_eq_true rfl) rfl rfl JX8 3 (by decide) K1 rfl dX8_photoCount_1 ?_
  refine lv_iload_n hx hb dX8_photoCount_4 rfl (lv_at hl 1 rfl) ?_
  refine r_callq hS (r_runV (n := 1) (As := [.int x]) (rest := []) CF hK hH (c_X6_find l G σ 0 (by decide) n hn hn8 x) gX8_photoCount_X6_find rfl rfl rfl rfl (by decide +kernel) ⟨⟨Nat.le_of_ble_eq_true rfl, Nat.le_of_ble_eq_true rfl⟩, Nat.le_of_ble_eq_true rfl, Nat.le_of_ble_eq_true rfl⟩ (16 + 0) rfl (by omega) (we_l G (by decide) _) rfl rfl hl.1 rfl (Nat.le_of_ble_eq_true rfl) dX8_photoCount_5) (fun rq5 σq5 H locs hq hH hS => ?_)
  obtain ⟨hσ1, hq⟩ := hq
  rw [hσ1] at hH
  rcases hq with ⟨hn5, hr1⟩ | ⟨j5, hj5, hi5, hr1⟩
  · rw [hr1]
    rw [show va_rf none = Value.null from rfl]
    have hin5 := inB_f hn5
    refine lv_astore_nN (lv' := [(2, .null), (0, .ref (G.2.1 20)), (1, .int x)]) hx hb dX8_photoCount_8 rfl hl (by decide) rfl (fun ls hl => ?_)
    refine lv_aload_nN hx hb dX8_photoCount_9 rfl (lv_at hl 0 rfl) ?_
    refine lv_ifnonnullN hx hb dX8_photoCount_10 ?_
    refine lv_bipush (v := (-2)) hx hb dX8_photoCount_13 (by decide) ?_
    exact r_iret CF hr hlk hH hS dX8_photoCount_15 ⟨by simp [aPhc, hin5], rfl⟩
  · rw [hr1]
    rw [show va_rf (some (G.2.1 (8 * 0 + j5))) = Value.ref (G.2.1 (8 * 0 + j5)) from rfl]
    have hin5 := inB_t hj5 hi5 (by omega)
    have hN5 := N_of hi5 (by omega)
    refine lv_astore_n (lv' := [(2, .ref (G.2.1 (8 * 0 + j5))), (0, .ref (G.2.1 20)), (1, .int x)]) hx hb dX8_photoCount_8 rfl hl (by decide) rfl (fun ls hl => ?_)
    refine lv_aload_n hx hb dX8_photoCount_9 rfl (lv_at hl 0 rfl) ?_
    refine lv_ifnonnull (tgt := 16) hx hb dX8_photoCount_10 (by decide) ?_
    refine lv_aload_n hx hb dX8_photoCount_16 rfl (lv_at hl 0 rfl) ?_
    refine r_cR hS (r_runV (n := 0) (As := []) (rest := []) CF hK hH (c_X5_photos l G σ (8 * 0 + j5) (by omega) (sq j5) (hL.2.2 j5 (by omega))) gX8_photoCount_X5_photos rfl rfl rfl rfl (by decide +kernel) ⟨⟨Nat.le_of_ble_eq_true rfl, Nat.le_of_ble_eq_true rfl⟩, Nat.le_of_ble_eq_true rfl, Nat.le_of_ble_eq_true rfl⟩ (8 * 0 + j5) rfl (by omega) (we_s G (by omega) _) rfl rfl hl.1 rfl (Nat.le_of_ble_eq_true rfl) dX8_photoCount_17) (fun H locs hH hS => ?_)
    exact r_iret CF hr hlk hH hS dX8_photoCount_20 ⟨by simp [aPhc, hin5, hN5], rfl⟩

set_option maxRecDepth 100000 in
set_option maxHeartbeats 4000000 in
theorem c_X8_photoColumn (l : Launch) (G : Gm) (σ : Sg) (R C n : Nat) (sq : Nat → S4) (hA : CA σ R C n sq) (x p : Int32) : Met l yX8_photoColumn wsX8_photoColumn (rmO 3 62) (PP G [.ref (G.2.1 20), .int x, .int p] σ) (QI G (RV (aPhcol n sq x p) σ)) 0 0 (fr G) := by
  refine r_start (cc := cX8_photoColumn) (maxL := 4) (ret := (some .int)) (by decide) rfl (Nat.le_of_ble_eq_true rfl) ?_
  intro pz ez sz mz below meth cz ls CF hr hlk hK hH hS hl
  have CF : CallFix pz mz cz cX8_photoColumn 4 sz (List.toArray [.ref (G.2.1 20), .int x, .int p]) wsX8_photoColumn RX8 := CF
  have hx := CF.1
  have hb := CF.2.1
  have hown := CF.2.2.2.1
  have hts := CF.2.2.2.2
  have hl : lv_has ls 4 [(0, .ref (G.2.1 20)), (1, .int x), (2, .int p)] := hl
  have K1 := hts _ (List.mem_of_getElem? (i := 1) rfl)
  have JX8 : ∀ w ∈ wsX80, w ∈ wsX8_photoColumn := in_r _ [32, 33, 34, 35, 36, 37, 38] (by decide +kernel)
  obtain ⟨hR, hC, hR3, hR10, hC4, hC16, hh, hL⟩ := hA
  have hn : σ (16 + 0) 0 = nI n := hL.1
  have hn8 := hL.2.1
  refine lv_aload_n hx hb dX8_photoColumn_0 rfl (lv_at hl 0 rfl) ?_
  refine r_get CF hK hH 20 (Nat.le_of_ble_eq_true rfl) rfl rfl JX8 3 (by decide) K1 rfl dX8_photoColumn_1 ?_
  refine lv_iload_n hx hb dX8_photoColumn_4 rfl (lv_at hl 1 rfl) ?_
  refine r_callq hS (r_runV (n := 1) (As := [.int x]) (rest := []) CF hK hH (c_X6_find l G σ 0 (by decide) n hn hn8 x) gX8_photoColumn_X6_find rfl rfl rfl rfl (by decide +kernel) ⟨⟨Nat.le_of_ble_eq_true rfl, Nat.le_of_ble_eq_true rfl⟩, Nat.le_of_ble_eq_true rfl, Nat.le_of_ble_eq_true rfl⟩ (16 + 0) rfl (by omega) (we_l G (by decide) _) rfl rfl hl.1 rfl (Nat.le_of_ble_eq_true rfl) dX8_photoColumn_5) (fun rq5 σq5 H locs hq hH hS => ?_)
  obtain ⟨hσ1, hq⟩ := hq
  rw [hσ1] at hH
  rcases hq with ⟨hn5, hr1⟩ | ⟨j5, hj5, hi5, hr1⟩
  · rw [hr1]
    rw [show va_rf none = Value.null from rfl]
    have hin5 := inB_f hn5
    refine lv_astore_nN (lv' := [(3, .null), (0, .ref (G.2.1 20)), (1, .int x), (2, .int p)]) hx hb dX8_photoColumn_8 rfl hl (by decide) rfl (fun ls hl => ?_)
    refine lv_aload_nN hx hb dX8_photoColumn_9 rfl (lv_at hl 0 rfl) ?_
    refine lv_ifnonnullN hx hb dX8_photoColumn_10 ?_
    refine lv_bipush (v := (-2)) hx hb dX8_photoColumn_13 (by decide) ?_
    exact r_iret CF hr hlk hH hS dX8_photoColumn_15 ⟨by simp [aPhcol, hin5, ], rfl⟩
  · rw [hr1]
    rw [show va_rf (some (G.2.1 (8 * 0 + j5))) = Value.ref (G.2.1 (8 * 0 + j5)) from rfl]
    have hin5 := inB_t hj5 hi5 (by omega)
    have hN5 := N_of hi5 (by omega)
    refine lv_astore_n (lv' := [(3, .ref (G.2.1 (8 * 0 + j5))), (0, .ref (G.2.1 20)), (1, .int x), (2, .int p)]) hx hb dX8_photoColumn_8 rfl hl (by decide) rfl (fun ls hl => ?_)
    refine lv_aload_n hx hb dX8_photoColumn_9 rfl (lv_at hl 0 rfl) ?_
    refine lv_ifnonnull (tgt := 16) hx hb dX8_photoColumn_10 (by decide) ?_
    refine lv_aload_n hx hb dX8_photoColumn_16 rfl (lv_at hl 0 rfl) ?_
    refine lv_iload_n hx hb dX8_photoColumn_17 rfl (lv_at hl 3 rfl) ?_
    refine r_cR hS (r_runV (n := 1) (As := [.int p]) (rest := []) CF hK hH (c_X5_hasPhoto l G σ (8 * 0 + j5) (by omega) (sq j5) (hL.2.2 j5 (by omega)) p) gX8_photoColumn_X5_hasPhoto rfl rfl rfl rfl (by decide +kernel) ⟨⟨Nat.le_of_ble_eq_true rfl, Nat.le_of_ble_eq_true rfl⟩, Nat.le_of_ble_eq_true rfl, Nat.le_of_ble_eq_true rfl⟩ (8 * 0 + j5) rfl (by omega) (we_s G (by omega) _) rfl rfl hl.1 rfl (Nat.le_of_ble_eq_true rfl) dX8_photoColumn_18) (fun H locs hH hS => ?_)
    refine r_ifneB (tgt := 27) hx hb dX8_photoColumn_21 (by decide) (fun c21 => ?_) (fun c21 => ?_)
    · obtain ⟨pn, hpn, ep⟩ := inB_of (show inB p (phF (sq j5)) = true from c21) (by have := phF_le (hL.2.2 j5 (by omega)).2.2.2.2; omega)
      have epN := N_of ep (by have := phF_le (hL.2.2 j5 (by omega)).2.2.2.2; omega)
      have c21 : inB p (phF (sq j5)) = true := c21
      refine lv_aload_n hx hb dX8_photoColumn_27 rfl (lv_at hl 0 rfl) ?_
      refine lv_iload_n hx hb dX8_photoColumn_28 rfl (lv_at hl 3 rfl) ?_
      refine r_top (show (p : Int32) = nI pn from ep) ?_
      refine r_cR hS (r_runV (n := 1) (As := [.int (nI pn)]) (rest := []) CF hK hH (c_X5_columnOf l G σ (8 * 0 + j5) (by omega) (sq j5) (hL.2.2 j5 (by omega)) pn) gX8_photoColumn_X5_columnOf rfl rfl rfl rfl (by decide +kernel) ⟨⟨Nat.le_of_ble_eq_true rfl, Nat.le_of_ble_eq_true rfl⟩, Nat.le_of_ble_eq_true rfl, Nat.le_of_ble_eq_true rfl⟩ (8 * 0 + j5) rfl (by omega) (we_s G (by omega) _) rfl rfl hl.1 rfl (Nat.le_of_ble_eq_true rfl) dX8_photoColumn_29) (fun H locs hH hS => ?_)
      exact r_iret CF hr hlk hH hS dX8_photoColumn_32 ⟨by simp [aPhcol, hin5, hN5, epN, c21], rfl⟩
    · have c21 : inB p (phF (sq j5)) = false := c21
      refine lv_bipush (v := (-3)) hx hb dX8_photoColumn_24 (by decide) ?_
      exact r_iret CF hr hlk hH hS dX8_photoColumn_26 ⟨by simp [aPhcol, hin5, hN5, c21], rfl⟩

set_option maxRecDepth 100000 in
set_option maxHeartbeats 4000000 in
theorem c_X8_seesCell (l : Launch) (G : Gm) (σ : Sg) (R C n : Nat) (sq : Nat → S4) (hA : CA σ R C n sq) (x p y z : Int32) : Met l yX8_seesCell wsX8_seesCell (rmO 3 84) (PP G [.ref (G.2.1 20), .int x, .int p, .int y, .int z] σ) (QI G (RV (aSee R C (σ 22) (cmC σ) n sq x p y z) σ)) 0 0 (fr G) := by
  refine r_start (cc := cX8_seesCell) (maxL := 6) (ret := (some .int)) (by decide) rfl (Nat.le_of_ble_eq_true rfl) ?_
  intro pz ez sz mz below meth cz ls CF hr hlk hK hH hS hl
  have CF : CallFix pz mz cz cX8_seesCell 6 sz (List.toArray [.ref (G.2.1 20), .int x, .int p, .int y, .int z]) wsX8_seesCell RX8 := CF
  have hx := CF.1
  have hb := CF.2.1
  have hown := CF.2.2.2.1
  have hts := CF.2.2.2.2
  have hl : lv_has ls 6 [(0, .ref (G.2.1 20)), (1, .int x), (2, .int p), (3, .int y), (4, .int z)] := hl
  have K1 := hts _ (List.mem_of_getElem? (i := 1) rfl)
  have K2 := hts _ (List.mem_of_getElem? (i := 2) rfl)
  have K3 := hts _ (List.mem_of_getElem? (i := 3) rfl)
  have K4 := hts _ (List.mem_of_getElem? (i := 4) rfl)
  have JX5 : ∀ w ∈ wsX50, w ∈ wsX8_seesCell := in_r _ [78, 79, 80, 81] (by decide +kernel)
  have JX8 : ∀ w ∈ wsX80, w ∈ wsX8_seesCell := in_r _ [71, 72, 73, 74, 75, 76, 77] (by decide +kernel)
  obtain ⟨hR, hC, hR3, hR10, hC4, hC16, hh, hL⟩ := hA
  have hn : σ (16 + 0) 0 = nI n := hL.1
  have hn8 := hL.2.1
  refine lv_aload_n hx hb dX8_seesCell_0 rfl (lv_at hl 0 rfl) ?_
  refine r_get CF hK hH 20 (Nat.le_of_ble_eq_true rfl) rfl rfl JX8 3 (by decide) K1 rfl dX8_seesCell_1 ?_
  refine lv_iload_n hx hb dX8_seesCell_4 rfl (lv_at hl 1 rfl) ?_
  refine r_callq hS (r_runV (n := 1) (As := [.int x]) (rest := []) CF hK hH (c_X6_find l G σ 0 (by decide) n hn hn8 x) gX8_seesCell_X6_find rfl rfl rfl rfl (by decide +kernel) ⟨⟨Nat.le_of_ble_eq_true rfl, Nat.le_of_ble_eq_true rfl⟩, Nat.le_of_ble_eq_true rfl, Nat.le_of_ble_eq_true rfl⟩ (16 + 0) rfl (by omega) (we_l G (by decide) _) rfl rfl hl.1 rfl (Nat.le_of_ble_eq_true rfl) dX8_seesCell_5) (fun rq5 σq5 H locs hq hH hS => ?_)
  obtain ⟨hσ1, hq⟩ := hq
  rw [hσ1] at hH
  rcases hq with ⟨hn5, hr1⟩ | ⟨j5, hj5, hi5, hr1⟩
  · rw [hr1]
    rw [show va_rf none = Value.null from rfl]
    have hin5 := inB_f hn5
    refine lv_astoreN (lv' := [(5, .null), (0, .ref (G.2.1 20)), (1, .int x), (2, .int p), (3, .int y), (4, .int z)]) hx hb dX8_seesCell_8 hl (by decide) rfl (fun ls hl => ?_)
    refine lv_aloadN hx hb dX8_seesCell_10 (lv_at hl 0 rfl) ?_
    refine lv_ifnonnullN hx hb dX8_seesCell_12 ?_
    refine lv_bipush (v := (-2)) hx hb dX8_seesCell_15 (by decide) ?_
    exact r_iret CF hr hlk hH hS dX8_seesCell_17 ⟨by simp [aSee, hin5, ], rfl⟩
  · rw [hr1]
    rw [show va_rf (some (G.2.1 (8 * 0 + j5))) = Value.ref (G.2.1 (8 * 0 + j5)) from rfl]
    have hin5 := inB_t hj5 hi5 (by omega)
    have hN5 := N_of hi5 (by omega)
    refine lv_astore (lv' := [(5, .ref (G.2.1 (8 * 0 + j5))), (0, .ref (G.2.1 20)), (1, .int x), (2, .int p), (3, .int y), (4, .int z)]) hx hb dX8_seesCell_8 hl (by decide) rfl (fun ls hl => ?_)
    refine lv_aload hx hb dX8_seesCell_10 (lv_at hl 0 rfl) ?_
    refine lv_ifnonnull (tgt := 18) hx hb dX8_seesCell_12 (by decide) ?_
    refine lv_aload hx hb dX8_seesCell_18 (lv_at hl 0 rfl) ?_
    refine lv_iload_n hx hb dX8_seesCell_20 rfl (lv_at hl 3 rfl) ?_
    refine r_cR hS (r_runV (n := 1) (As := [.int p]) (rest := []) CF hK hH (c_X5_hasPhoto l G σ (8 * 0 + j5) (by omega) (sq j5) (hL.2.2 j5 (by omega)) p) gX8_seesCell_X5_hasPhoto rfl rfl rfl rfl (by decide +kernel) ⟨⟨Nat.le_of_ble_eq_true rfl, Nat.le_of_ble_eq_true rfl⟩, Nat.le_of_ble_eq_true rfl, Nat.le_of_ble_eq_true rfl⟩ (8 * 0 + j5) rfl (by omega) (we_s G (by omega) _) rfl rfl hl.1 rfl (Nat.le_of_ble_eq_true rfl) dX8_seesCell_21) (fun H locs hH hS => ?_)
    refine r_ifneB (tgt := 30) hx hb dX8_seesCell_24 (by decide) (fun c24 => ?_) (fun c24 => ?_)
    · obtain ⟨pn, hpn, ep⟩ := inB_of (show inB p (phF (sq j5)) = true from c24) (by have := phF_le (hL.2.2 j5 (by omega)).2.2.2.2; omega)
      have epN := N_of ep (by have := phF_le (hL.2.2 j5 (by omega)).2.2.2.2; omega)
      have c24 : inB p (phF (sq j5)) = true := c24
      refine lv_aload_n hx hb dX8_seesCell_30 rfl (lv_at hl 1 rfl) ?_
      refine r_get CF hK hH 20 (Nat.le_of_ble_eq_true rfl) rfl rfl JX8 0 (by decide) K2 rfl dX8_seesCell_31 ?_
      refine lv_iload_n hx hb dX8_seesCell_34 rfl (lv_at hl 4 rfl) ?_
      refine lv_iload hx hb dX8_seesCell_35 (lv_at hl 5 rfl) ?_
      refine r_cR hS (r_runV (n := 2) (As := [.int y, .int z]) (rest := []) CF hK hH (c_X7_contains l G σ y z) gX8_seesCell_X7_contains rfl rfl rfl rfl (by decide +kernel) ⟨⟨Nat.le_of_ble_eq_true rfl, Nat.le_of_ble_eq_true rfl⟩, Nat.le_of_ble_eq_true rfl, Nat.le_of_ble_eq_true rfl⟩ 21 rfl (Nat.le_of_ble_eq_true rfl) rfl rfl rfl hl.1 rfl (Nat.le_of_ble_eq_true rfl) dX8_seesCell_37) (fun H locs hH hS => ?_)
      refine r_top (show (b2i (isC σ y z) : Int32) = b2i (inB y R && inB z C) from (by rw [isC_eq hR hC])) ?_
      refine r_ifneB (tgt := 45) hx hb dX8_seesCell_40 (by decide) (fun c40 => ?_) (fun c40 => ?_)
      · obtain ⟨r, c, hr1, hc1, ex, ey, exN, eyN⟩ := inC_of c40 hR10 hC16
        have hq := (hL.2.2 j5 (by omega)).2.2.2.2
        have hcol := ph_col hq hpn
        refine lv_aload_n hx hb dX8_seesCell_45 rfl (lv_at hl 1 rfl) ?_
        refine r_get CF hK hH 20 (Nat.le_of_ble_eq_true rfl) rfl rfl JX8 1 (by decide) K3 rfl dX8_seesCell_46 ?_
        refine lv_aload_n hx hb dX8_seesCell_49 rfl (lv_at hl 1 rfl) ?_
        refine r_get CF hK hH 20 (Nat.le_of_ble_eq_true rfl) rfl rfl JX8 0 (by decide) K2 rfl dX8_seesCell_50 ?_
        refine lv_aload hx hb dX8_seesCell_53 (lv_at hl 0 rfl) ?_
        refine r_get CF hK hH (8 * 0 + j5) (by omega) (we_s G (by omega) _) rfl JX5 0 (by decide) K4 rfl dX8_seesCell_55 ?_
        refine r_top (show (σ (8 * 0 + j5) 0 : Int32) = nI (sq j5).1 from (hL.2.2 j5 (by omega)).1) ?_
        refine lv_aload hx hb dX8_seesCell_58 (lv_at hl 0 rfl) ?_
        refine lv_iload_n hx hb dX8_seesCell_60 rfl (lv_at hl 3 rfl) ?_
        refine r_top (show (p : Int32) = nI pn from ep) ?_
        refine r_cR hS (r_runV (n := 1) (As := [.int (nI pn)]) (rest := [.int (nI (sq j5).1), .ref (G.2.1 21), .ref (G.2.1 23)]) CF hK hH (c_X5_columnOf l G σ (8 * 0 + j5) (by omega) (sq j5) (hL.2.2 j5 (by omega)) pn) gX8_seesCell_X5_columnOf rfl rfl rfl rfl (by decide +kernel) ⟨⟨Nat.le_of_ble_eq_true rfl, Nat.le_of_ble_eq_true rfl⟩, Nat.le_of_ble_eq_true rfl, Nat.le_of_ble_eq_true rfl⟩ (8 * 0 + j5) rfl (by omega) (we_s G (by omega) _) rfl rfl hl.1 rfl (Nat.le_of_ble_eq_true rfl) dX8_seesCell_61) (fun H locs hH hS => ?_)
        refine lv_iload_n hx hb dX8_seesCell_64 rfl (lv_at hl 4 rfl) ?_
        refine r_top (show (y : Int32) = nI r from ex) ?_
        refine lv_iload hx hb dX8_seesCell_65 (lv_at hl 5 rfl) ?_
        refine r_top (show (z : Int32) = nI c from ey) ?_
        refine r_cR hS (r_runV (n := 5) (As := [.ref (G.2.1 21), .int (nI (sq j5).1), .int (nI ((sq j5).2.1 + pn * (sq j5).2.2.2)), .int (nI r), .int (nI c)]) (rest := []) CF hK hH (c_X1_sees l G σ (sq j5).1 ((sq j5).2.1 + pn * (sq j5).2.2.2) r c hq.1 (by have := hq.2.2.1; omega) (by omega) (by omega) hh) gX8_seesCell_X1_sees rfl rfl rfl rfl (by decide +kernel) ⟨⟨Nat.le_of_ble_eq_true rfl, Nat.le_of_ble_eq_true rfl⟩, Nat.le_of_ble_eq_true rfl, Nat.le_of_ble_eq_true rfl⟩ 23 rfl (Nat.le_of_ble_eq_true rfl) rfl rfl rfl hl.1 rfl (Nat.le_of_ble_eq_true rfl) dX8_seesCell_67) (fun H locs hH hS => ?_)
        refine r_ifeqB (tgt := 77) hx hb dX8_seesCell_70 (by decide) (fun c70 => ?_) (fun c70 => ?_)
        · refine lv_iconst (v := 0) hx hb dX8_seesCell_77 (by decide) ?_
          exact r_iret CF hr hlk hH hS dX8_seesCell_78 ⟨by simp [aSee, hin5, hN5, epN, exN, eyN, psF, c24, c40, c70, b2i], rfl⟩
        · refine lv_iconst (v := 1) hx hb dX8_seesCell_73 (by decide) ?_
          refine lv_goto (tgt := 78) hx hb dX8_seesCell_74 (by decide) ?_
          exact r_iret CF hr hlk hH hS dX8_seesCell_78 ⟨by simp [aSee, hin5, hN5, epN, exN, eyN, psF, c24, c40, c70, b2i], rfl⟩
      · refine lv_iconst (v := (-1)) hx hb dX8_seesCell_43 (by decide) ?_
        exact r_iret CF hr hlk hH hS dX8_seesCell_44 ⟨by simp [aSee, hin5, hN5, c24, c40], rfl⟩
    · have c24 : inB p (phF (sq j5)) = false := c24
      refine lv_bipush (v := (-3)) hx hb dX8_seesCell_27 (by decide) ?_
      exact r_iret CF hr hlk hH hS dX8_seesCell_29 ⟨by simp [aSee, hin5, hN5, c24], rfl⟩

theorem fpP_at (g : Nat → Int32) (cm : Cm) (q : S4) (p : Nat) {i j C : Nat} (h : j < C) : fpP g cm q p C (i * C + j) = seesF g cm q.1 (q.2.1 + p * q.2.2.2) i j := by
  unfold fpP psF; rw [dm1 h, dm2 h]
theorem ssP_at (g : Nat → Int32) (cm : Cm) (q : S4) {i j C : Nat} (h : j < C) : ssP g cm q C (i * C + j) = ssF g cm q i j := by
  unfold ssP; rw [dm1 h, dm2 h]
theorem cntT {p : Nat → Bool} {a : Nat} {x : Int32} (hp : p a = true) (h : x = nI (cnt p a)) : x + (1) = nI (cnt p (a + 1)) := by rw [cnt_t hp, h]; exact nI_1 _
theorem cntF {p : Nat → Bool} {a : Nat} {x : Int32} (hp : p a = false) (h : x = nI (cnt p a)) : x = nI (cnt p (a + 1)) := by rw [cnt_f hp, h]

set_option maxRecDepth 100000 in
set_option maxHeartbeats 4000000 in
theorem c_X8_footprintSize (l : Launch) (G : Gm) (σ : Sg) (R C n : Nat) (sq : Nat → S4) (hA : CA σ R C n sq) (x p : Int32) : Met l yX8_footprintSize wsX8_footprintSize (rmO 3 84) (PP G [.ref (G.2.1 20), .int x, .int p] σ) (QI G (RV (aFoot R C (σ 22) (cmC σ) n sq x p) σ)) 0 0 (fr G) := by
  refine r_start (cc := cX8_footprintSize) (maxL := 8) (ret := (some .int)) (by decide) rfl (Nat.le_of_ble_eq_true rfl) ?_
  intro pz ez sz mz below meth cz ls CF hr hlk hK hH hS hl
  have CF : CallFix pz mz cz cX8_footprintSize 8 sz (List.toArray [.ref (G.2.1 20), .int x, .int p]) wsX8_footprintSize RX8 := CF
  have hx := CF.1
  have hb := CF.2.1
  have hown := CF.2.2.2.1
  have hts := CF.2.2.2.2
  have hl : lv_has ls 8 [(0, .ref (G.2.1 20)), (1, .int x), (2, .int p)] := hl
  have K1 := hts _ (List.mem_of_getElem? (i := 1) rfl)
  have K2 := hts _ (List.mem_of_getElem? (i := 2) rfl)
  have K3 := hts _ (List.mem_of_getElem? (i := 3) rfl)
  have K4 := hts _ (List.mem_of_getElem? (i := 4) rfl)
  have K5 := hts _ (List.mem_of_getElem? (i := 5) rfl)
  have K6 := hts _ (List.mem_of_getElem? (i := 6) rfl)
  have JX5 : ∀ w ∈ wsX50, w ∈ wsX8_footprintSize := in_r _ [77, 78, 79, 80] (by decide +kernel)
  have JX7 : ∀ w ∈ wsX70, w ∈ wsX8_footprintSize := in_r _ [74, 75, 76] (by decide +kernel)
  have JX8 : ∀ w ∈ wsX80, w ∈ wsX8_footprintSize := in_r _ [67, 68, 69, 70, 71, 72, 73] (by decide +kernel)
  obtain ⟨hR, hC, hR3, hR10, hC4, hC16, hh, hL⟩ := hA
  have hn : σ (16 + 0) 0 = nI n := hL.1
  have hn8 := hL.2.1
  refine lv_aload_n hx hb dX8_footprintSize_0 rfl (lv_at hl 0 rfl) ?_
  refine r_get CF hK hH 20 (Nat.le_of_ble_eq_true rfl) rfl rfl JX8 3 (by decide) K1 rfl dX8_footprintSize_1 ?_
  refine lv_iload_n hx hb dX8_footprintSize_4 rfl (lv_at hl 1 rfl) ?_
  refine r_callq hS (r_runV (n := 1) (As := [.int x]) (rest := []) CF hK hH (c_X6_find l G σ 0 (by decide) n hn hn8 x) gX8_footprintSize_X6_find rfl rfl rfl rfl (by decide +kernel) ⟨⟨Nat.le_of_ble_eq_true rfl, Nat.le_of_ble_eq_true rfl⟩, Nat.le_of_ble_eq_true rfl, Nat.le_of_ble_eq_true rfl⟩ (16 + 0) rfl (by omega) (we_l G (by decide) _) rfl rfl hl.1 rfl (Nat.le_of_ble_eq_true rfl) dX8_footprintSize_5) (fun rq5 σq5 H locs hq hH hS => ?_)
  obtain ⟨hσ1, hq⟩ := hq
  rw [hσ1] at hH
  rcases hq with ⟨hn5, hr1⟩ | ⟨j5, hj5, hi5, hr1⟩
  · rw [hr1]
    rw [show va_rf none = Value.null from rfl]
    have hin5 := inB_f hn5
    refine lv_astore_nN (lv' := [(3, .null), (0, .ref (G.2.1 20)), (1, .int x), (2, .int p)]) hx hb dX8_footprintSize_8 rfl hl (by decide) rfl (fun ls hl => ?_)
    refine lv_aload_nN hx hb dX8_footprintSize_9 rfl (lv_at hl 0 rfl) ?_
    refine lv_ifnonnullN hx hb dX8_footprintSize_10 ?_
    refine lv_bipush (v := (-2)) hx hb dX8_footprintSize_13 (by decide) ?_
    exact r_iret CF hr hlk hH hS dX8_footprintSize_15 ⟨by simp [aFoot, hin5], rfl⟩
  · rw [hr1]
    rw [show va_rf (some (G.2.1 (8 * 0 + j5))) = Value.ref (G.2.1 (8 * 0 + j5)) from rfl]
    have hin5 := inB_t hj5 hi5 (by omega)
    have hN5 := N_of hi5 (by omega)
    refine lv_astore_n (lv' := [(3, .ref (G.2.1 (8 * 0 + j5))), (0, .ref (G.2.1 20)), (1, .int x), (2, .int p)]) hx hb dX8_footprintSize_8 rfl hl (by decide) rfl (fun ls hl => ?_)
    refine lv_aload_n hx hb dX8_footprintSize_9 rfl (lv_at hl 0 rfl) ?_
    refine lv_ifnonnull (tgt := 16) hx hb dX8_footprintSize_10 (by decide) ?_
    refine lv_aload_n hx hb dX8_footprintSize_16 rfl (lv_at hl 0 rfl) ?_
    refine lv_iload_n hx hb dX8_footprintSize_17 rfl (lv_at hl 3 rfl) ?_
    refine r_cR hS (r_runV (n := 1) (As := [.int p]) (rest := []) CF hK hH (c_X5_hasPhoto l G σ (8 * 0 + j5) (by omega) (sq j5) (hL.2.2 j5 (by omega)) p) gX8_footprintSize_X5_hasPhoto rfl rfl rfl rfl (by decide +kernel) ⟨⟨Nat.le_of_ble_eq_true rfl, Nat.le_of_ble_eq_true rfl⟩, Nat.le_of_ble_eq_true rfl, Nat.le_of_ble_eq_true rfl⟩ (8 * 0 + j5) rfl (by omega) (we_s G (by omega) _) rfl rfl hl.1 rfl (Nat.le_of_ble_eq_true rfl) dX8_footprintSize_18) (fun H locs hH hS => ?_)
    refine r_ifneB (tgt := 27) hx hb dX8_footprintSize_21 (by decide) (fun c21 => ?_) (fun c21 => ?_)
    · obtain ⟨pn, hpn, ep⟩ := inB_of (show inB p (phF (sq j5)) = true from c21) (by have := phF_le (hL.2.2 j5 (by omega)).2.2.2.2; omega)
      have epN := N_of ep (by have := phF_le (hL.2.2 j5 (by omega)).2.2.2.2; omega)
      have c21 : inB p (phF (sq j5)) = true := c21
      have hq := (hL.2.2 j5 (by omega)).2.2.2.2
      have hcol := ph_col hq hpn
      refine lv_aload_n hx hb dX8_footprintSize_27 rfl (lv_at hl 0 rfl) ?_
      refine lv_iload_n hx hb dX8_footprintSize_28 rfl (lv_at hl 3 rfl) ?_
      refine r_top (show (p : Int32) = nI pn from ep) ?_
      refine r_cR hS (r_runV (n := 1) (As := [.int (nI pn)]) (rest := []) CF hK hH (c_X5_columnOf l G σ (8 * 0 + j5) (by omega) (sq j5) (hL.2.2 j5 (by omega)) pn) gX8_footprintSize_X5_columnOf rfl rfl rfl rfl (by decide +kernel) ⟨⟨Nat.le_of_ble_eq_true rfl, Nat.le_of_ble_eq_true rfl⟩, Nat.le_of_ble_eq_true rfl, Nat.le_of_ble_eq_true rfl⟩ (8 * 0 + j5) rfl (by omega) (we_s G (by omega) _) rfl rfl hl.1 rfl (Nat.le_of_ble_eq_true rfl) dX8_footprintSize_29) (fun H locs hH hS => ?_)
      refine lv_istore (lv' := [(4, .int (nI ((sq j5).2.1 + pn * (sq j5).2.2.2))), (3, .ref (G.2.1 (8 * 0 + j5))), (0, .ref (G.2.1 20)), (1, .int x), (2, .int p)]) hx hb dX8_footprintSize_32 hl (by decide) rfl (fun ls hl => ?_)
      refine lv_iconst (v := 0) hx hb dX8_footprintSize_34 (by decide) ?_
      refine lv_istore (lv' := [(5, .int (0 : Int32)), (4, .int (nI ((sq j5).2.1 + pn * (sq j5).2.2.2))), (3, .ref (G.2.1 (8 * 0 + j5))), (0, .ref (G.2.1 20)), (1, .int x), (2, .int p)]) hx hb dX8_footprintSize_35 hl (by decide) rfl (fun ls hl => ?_)
      refine lv_iconst (v := 0) hx hb dX8_footprintSize_37 (by decide) ?_
      refine lv_istore (lv' := [(6, .int (0 : Int32)), (5, .int (0 : Int32)), (4, .int (nI ((sq j5).2.1 + pn * (sq j5).2.2.2))), (3, .ref (G.2.1 (8 * 0 + j5))), (0, .ref (G.2.1 20)), (1, .int x), (2, .int p)]) hx hb dX8_footprintSize_38 hl (by decide) rfl (fun ls hl => ?_)
      have lp40 : ∀ (fu : Nat) (i : Nat) (x5 : Int32) (H : Heap) (locs : List Loc) (ls : Array Slot), (R + 1 ≤ i + fu) → (i ≤ R) → (x5 = nI (cnt (fpP (σ 22) (cmC σ) (sq j5) pn C) (i * C))) → Hp G σ H → va_S (fr G) sz.heap H locs → lv_has ls 8 [(0, .ref (G.2.1 20)), (3, .ref (G.2.1 (8 * 0 + j5))), (4, .int (nI ((sq j5).2.1 + pn * (sq j5).2.2.2))), (5, .int x5), (6, .int (nI i))] → W pz l ez (rmO 3 84) sz mz (List.toArray [.ref (G.2.1 20), .int x, .int p]) below meth cz H locs 0 0 (MQ below (QI G (RV (aFoot R C (σ 22) (cmC σ) n sq x p) σ)) (List.toArray [.ref (G.2.1 20), .int x, .int p]) sz 0 0 (fr G)) (F0 mz 40 ls []) := by
        intro fu
        induction fu with
        | zero => intros; omega
        | succ fu ih40 =>
          intro i x5 H locs ls hf hi hz hH hS hl
          refine lv_iload hx hb dX8_footprintSize_40 (lv_at hl 4 rfl) ?_
          refine lv_aload_n hx hb dX8_footprintSize_42 rfl (lv_at hl 0 rfl) ?_
          refine r_get CF hK hH 20 (Nat.le_of_ble_eq_true rfl) rfl rfl JX8 0 (by decide) K2 rfl dX8_footprintSize_43 ?_
          refine r_get CF hK hH 21 (Nat.le_of_ble_eq_true rfl) rfl rfl JX7 0 (by decide) K3 rfl dX8_footprintSize_46 ?_
          refine r_top (show (σ 21 0 : Int32) = nI R from hR) ?_
          refine lv_icmp_ge (tgt := 106) hx hb dX8_footprintSize_49 (by decide) (fun c49 => ?_) (fun c49 => ?_)
          · have c49 : R ≤ i := (nI_leI (a := R) (b := i) (by omega) (by omega)).mp c49
            refine lv_iload hx hb dX8_footprintSize_106 (lv_at hl 3 rfl) ?_
            exact r_iret CF hr hlk hH hS dX8_footprintSize_108 ⟨by have e : i = R := (by omega); subst e; simp [aFoot, hin5, hN5, epN, c21, hz], rfl⟩
          · have c49 : i < R := Nat.lt_of_not_le (fun zq => c49 ((nI_leI (a := R) (b := i) (by omega) (by omega)).mpr zq))
            refine lv_iconst (v := 0) hx hb dX8_footprintSize_52 (by decide) ?_
            refine lv_istore (lv' := [(7, .int (0 : Int32)), (0, .ref (G.2.1 20)), (3, .ref (G.2.1 (8 * 0 + j5))), (4, .int (nI ((sq j5).2.1 + pn * (sq j5).2.2.2))), (5, .int x5), (6, .int (nI i))]) hx hb dX8_footprintSize_53 hl (by decide) rfl (fun ls hl => ?_)
            have lp55 : ∀ (fv : Nat) (j : Nat) (y5 : Int32) (H : Heap) (locs : List Loc) (ls : Array Slot), (C + 1 ≤ j + fv) → (j ≤ C) → (y5 = nI (cnt (fpP (σ 22) (cmC σ) (sq j5) pn C) ((i * C + j)))) → Hp G σ H → va_S (fr G) sz.heap H locs → lv_has ls 8 [(0, .ref (G.2.1 20)), (3, .ref (G.2.1 (8 * 0 + j5))), (4, .int (nI ((sq j5).2.1 + pn * (sq j5).2.2.2))), (5, .int y5), (6, .int (nI i)), (7, .int (nI j))] → W pz l ez (rmO 3 84) sz mz (List.toArray [.ref (G.2.1 20), .int x, .int p]) below meth cz H locs 0 0 (MQ below (QI G (RV (aFoot R C (σ 22) (cmC σ) n sq x p) σ)) (List.toArray [.ref (G.2.1 20), .int x, .int p]) sz 0 0 (fr G)) (F0 mz 55 ls []) := by
              intro fv
              induction fv with
              | zero => intros; omega
              | succ fv ih55 =>
                intro j y5 H locs ls hg hj hz' hH hS hl
                refine lv_iload hx hb dX8_footprintSize_55 (lv_at hl 5 rfl) ?_
                refine lv_aload_n hx hb dX8_footprintSize_57 rfl (lv_at hl 0 rfl) ?_
                refine r_get CF hK hH 20 (Nat.le_of_ble_eq_true rfl) rfl rfl JX8 0 (by decide) K2 rfl dX8_footprintSize_58 ?_
                refine r_get CF hK hH 21 (Nat.le_of_ble_eq_true rfl) rfl rfl JX7 1 (by decide) K4 rfl dX8_footprintSize_61 ?_
                refine r_top (show (σ 21 1 : Int32) = nI C from hC) ?_
                refine lv_icmp_ge (tgt := 100) hx hb dX8_footprintSize_64 (by decide) (fun c64 => ?_) (fun c64 => ?_)
                · have c64 : C ≤ j := (nI_leI (a := C) (b := j) (by omega) (by omega)).mp c64
                  refine lv_iinc (v := nI (i + 1)) (lv' := [(6, .int (nI (i + 1))), (0, .ref (G.2.1 20)), (3, .ref (G.2.1 (8 * 0 + j5))), (4, .int (nI ((sq j5).2.1 + pn * (sq j5).2.2.2))), (5, .int y5), (7, .int (nI j))]) hx hb dX8_footprintSize_100 hl (k := 4) rfl (nI_1 _) (by decide) rfl (fun ls hl => ?_)
                  refine lv_goto (tgt := 40) hx hb dX8_footprintSize_103 (by decide) ?_
                  exact ih40 (i + 1) y5 _ _ ls (by omega) (by omega) (by have e : (i + 1) * C = i * C + j := (by have e2 : j = C := (by omega); rw [e2, Nat.succ_mul]); rw [e]; exact hz') hH hS (lv_sub hl [1, 2, 3, 4, 0] rfl)
                · have c64 : j < C := Nat.lt_of_not_le (fun zq => c64 ((nI_leI (a := C) (b := j) (by omega) (by omega)).mpr zq))
                  refine lv_aload_n hx hb dX8_footprintSize_67 rfl (lv_at hl 0 rfl) ?_
                  refine r_get CF hK hH 20 (Nat.le_of_ble_eq_true rfl) rfl rfl JX8 1 (by decide) K5 rfl dX8_footprintSize_68 ?_
                  refine lv_aload_n hx hb dX8_footprintSize_71 rfl (lv_at hl 0 rfl) ?_
                  refine r_get CF hK hH 20 (Nat.le_of_ble_eq_true rfl) rfl rfl JX8 0 (by decide) K2 rfl dX8_footprintSize_72 ?_
                  refine lv_aload_n hx hb dX8_footprintSize_75 rfl (lv_at hl 1 rfl) ?_
                  refine r_get CF hK hH (8 * 0 + j5) (by omega) (we_s G (by omega) _) rfl JX5 0 (by decide) K6 rfl dX8_footprintSize_76 ?_
                  refine r_top (show (σ (8 * 0 + j5) 0 : Int32) = nI (sq j5).1 from (hL.2.2 j5 (by omega)).1) ?_
                  refine lv_iload hx hb dX8_footprintSize_79 (lv_at hl 2 rfl) ?_
                  refine lv_iload hx hb dX8_footprintSize_81 (lv_at hl 4 rfl) ?_
                  refine lv_iload hx hb dX8_footprintSize_83 (lv_at hl 5 rfl) ?_
                  refine r_cR hS (r_runV (n := 5) (As := [.ref (G.2.1 21), .int (nI (sq j5).1), .int (nI ((sq j5).2.1 + pn * (sq j5).2.2.2)), .int (nI i), .int (nI j)]) (rest := []) CF hK hH (c_X1_sees l G σ (sq j5).1 ((sq j5).2.1 + pn * (sq j5).2.2.2) i j hq.1 (by have := hq.2.2.1; omega) (by omega) (by omega) hh) gX8_footprintSize_X1_sees rfl rfl rfl rfl (by decide +kernel) ⟨⟨Nat.le_of_ble_eq_true rfl, Nat.le_of_ble_eq_true rfl⟩, Nat.le_of_ble_eq_true rfl, Nat.le_of_ble_eq_true rfl⟩ 23 rfl (Nat.le_of_ble_eq_true rfl) rfl rfl rfl hl.1 rfl (Nat.le_of_ble_eq_true rfl) dX8_footprintSize_85) (fun H locs hH hS => ?_)
                  refine r_ifeqB (tgt := 94) hx hb dX8_footprintSize_88 (by decide) (fun c88 => ?_) (fun c88 => ?_)
                  · refine lv_iinc (v := nI (j + 1)) (lv' := [(7, .int (nI (j + 1))), (0, .ref (G.2.1 20)), (3, .ref (G.2.1 (8 * 0 + j5))), (4, .int (nI ((sq j5).2.1 + pn * (sq j5).2.2.2))), (5, .int y5), (6, .int (nI i))]) hx hb dX8_footprintSize_94 hl (k := 5) rfl (nI_1 _) (by decide) rfl (fun ls hl => ?_)
                    refine lv_goto (tgt := 55) hx hb dX8_footprintSize_97 (by decide) ?_
                    exact ih55 (j + 1) y5 _ _ ls (by omega) (by omega) (cntF (p := fpP (σ 22) (cmC σ) (sq j5) pn C) ((fpP_at _ _ _ _ c64).trans c88) hz') hH hS (lv_sub hl [1, 2, 3, 4, 5, 0] rfl)
                  · refine lv_iinc (v := (y5 + (1))) (lv' := [(5, .int (y5 + (1))), (0, .ref (G.2.1 20)), (3, .ref (G.2.1 (8 * 0 + j5))), (4, .int (nI ((sq j5).2.1 + pn * (sq j5).2.2.2))), (6, .int (nI i)), (7, .int (nI j))]) hx hb dX8_footprintSize_91 hl (k := 3) rfl rfl (by decide) rfl (fun ls hl => ?_)
                    refine lv_iinc (v := nI (j + 1)) (lv' := [(7, .int (nI (j + 1))), (5, .int (y5 + (1))), (0, .ref (G.2.1 20)), (3, .ref (G.2.1 (8 * 0 + j5))), (4, .int (nI ((sq j5).2.1 + pn * (sq j5).2.2.2))), (6, .int (nI i))]) hx hb dX8_footprintSize_94 hl (k := 5) rfl (nI_1 _) (by decide) rfl (fun ls hl => ?_)
                    refine lv_goto (tgt := 55) hx hb dX8_footprintSize_97 (by decide) ?_
                    exact ih55 (j + 1) (y5 + (1)) _ _ ls (by omega) (by omega) (cntT (p := fpP (σ 22) (cmC σ) (sq j5) pn C) ((fpP_at _ _ _ _ c64).trans c88) hz') hH hS (lv_sub hl [2, 3, 4, 1, 5, 0] rfl)
            exact lp55 (C + 1) 0 x5 _ _ ls (by omega) (by omega) (by exact hz) hH hS (lv_sub hl [1, 2, 3, 4, 5, 0] rfl)
      exact lp40 (R + 1) 0 (0 : Int32) _ _ ls (by omega) (by omega) (by rw [Nat.zero_mul]; rfl) hH hS (lv_sub hl [4, 3, 2, 1, 0] rfl)
    · have c21 : inB p (phF (sq j5)) = false := c21
      refine lv_bipush (v := (-3)) hx hb dX8_footprintSize_24 (by decide) ?_
      exact r_iret CF hr hlk hH hS dX8_footprintSize_26 ⟨by simp [aFoot, hin5, hN5, c21], rfl⟩

set_option maxRecDepth 100000 in
set_option maxHeartbeats 4000000 in
theorem c_X8_coverage (l : Launch) (G : Gm) (σ : Sg) (R C n : Nat) (sq : Nat → S4) (hA : CA σ R C n sq) (x y : Int32) : Met l yX8_coverage wsX8_coverage (rmO 4 114) (PP G [.ref (G.2.1 20), .int x, .int y] σ) (QI G (RV (aCov R C (σ 22) (cmC σ) n sq x y) σ)) 0 0 (fr G) := by
  refine r_start (cc := cX8_coverage) (maxL := 3) (ret := (some .int)) (by decide) rfl (Nat.le_of_ble_eq_true rfl) ?_
  intro pz ez sz mz below meth cz ls CF hr hlk hK hH hS hl
  have CF : CallFix pz mz cz cX8_coverage 3 sz (List.toArray [.ref (G.2.1 20), .int x, .int y]) wsX8_coverage RX8 := CF
  have hx := CF.1
  have hb := CF.2.1
  have hown := CF.2.2.2.1
  have hts := CF.2.2.2.2
  have hl : lv_has ls 3 [(0, .ref (G.2.1 20)), (1, .int x), (2, .int y)] := hl
  have K1 := hts _ (List.mem_of_getElem? (i := 1) rfl)
  have K2 := hts _ (List.mem_of_getElem? (i := 2) rfl)
  have K3 := hts _ (List.mem_of_getElem? (i := 3) rfl)
  have JX8 : ∀ w ∈ wsX80, w ∈ wsX8_coverage := in_r _ [71, 72, 73, 74, 75, 76, 77] (by decide +kernel)
  obtain ⟨hR, hC, hR3, hR10, hC4, hC16, hh, hL⟩ := hA
  have hn : σ (16 + 0) 0 = nI n := hL.1
  have hn8 := hL.2.1
  refine lv_aload_n hx hb dX8_coverage_0 rfl (lv_at hl 0 rfl) ?_
  refine r_get CF hK hH 20 (Nat.le_of_ble_eq_true rfl) rfl rfl JX8 0 (by decide) K1 rfl dX8_coverage_1 ?_
  refine lv_iload_n hx hb dX8_coverage_4 rfl (lv_at hl 1 rfl) ?_
  refine lv_iload_n hx hb dX8_coverage_5 rfl (lv_at hl 2 rfl) ?_
  refine r_cR hS (r_runV (n := 2) (As := [.int x, .int y]) (rest := []) CF hK hH (c_X7_contains l G σ x y) gX8_coverage_X7_contains rfl rfl rfl rfl (by decide +kernel) ⟨⟨Nat.le_of_ble_eq_true rfl, Nat.le_of_ble_eq_true rfl⟩, Nat.le_of_ble_eq_true rfl, Nat.le_of_ble_eq_true rfl⟩ 21 rfl (Nat.le_of_ble_eq_true rfl) rfl rfl rfl hl.1 rfl (Nat.le_of_ble_eq_true rfl) dX8_coverage_6) (fun H locs hH hS => ?_)
  refine r_top (show (b2i (isC σ x y) : Int32) = b2i (inB x R && inB y C) from (by rw [isC_eq hR hC])) ?_
  refine r_ifneB (tgt := 14) hx hb dX8_coverage_9 (by decide) (fun c9 => ?_) (fun c9 => ?_)
  · obtain ⟨r, c, hr1, hc1, ex, ey, exN, eyN⟩ := inC_of c9 hR10 hC16
    refine lv_aload_n hx hb dX8_coverage_14 rfl (lv_at hl 0 rfl) ?_
    refine r_get CF hK hH 20 (Nat.le_of_ble_eq_true rfl) rfl rfl JX8 3 (by decide) K2 rfl dX8_coverage_15 ?_
    refine lv_aload_n hx hb dX8_coverage_18 rfl (lv_at hl 0 rfl) ?_
    refine r_get CF hK hH 20 (Nat.le_of_ble_eq_true rfl) rfl rfl JX8 0 (by decide) K1 rfl dX8_coverage_19 ?_
    refine lv_aload_n hx hb dX8_coverage_22 rfl (lv_at hl 0 rfl) ?_
    refine r_get CF hK hH 20 (Nat.le_of_ble_eq_true rfl) rfl rfl JX8 1 (by decide) K3 rfl dX8_coverage_23 ?_
    refine lv_iload_n hx hb dX8_coverage_26 rfl (lv_at hl 1 rfl) ?_
    refine r_top (show (x : Int32) = nI r from ex) ?_
    refine lv_iload_n hx hb dX8_coverage_27 rfl (lv_at hl 2 rfl) ?_
    refine r_top (show (y : Int32) = nI c from ey) ?_
    refine lv_sipush (v := 128) hx hb dX8_coverage_28 (by decide) ?_
    refine r_top (show ((128) : Int32) = nI 128 from rfl) ?_
    refine r_cR hS (r_runV (n := 5) (As := [.ref (G.2.1 21), .ref (G.2.1 23), .int (nI r), .int (nI c), .int (nI 128)]) (rest := []) CF hK hH (c_X6_views l G σ 0 (by decide) n sq hL r c 128 (by omega) (by omega) (by omega) hh) gX8_coverage_X6_views rfl rfl rfl rfl (by decide +kernel) ⟨⟨Nat.le_of_ble_eq_true rfl, Nat.le_of_ble_eq_true rfl⟩, Nat.le_of_ble_eq_true rfl, Nat.le_of_ble_eq_true rfl⟩ (16 + 0) rfl (by omega) (we_l G (by decide) _) rfl rfl hl.1 rfl (Nat.le_of_ble_eq_true rfl) dX8_coverage_31) (fun H locs hH hS => ?_)
    exact r_iret CF hr hlk hH hS dX8_coverage_34 ⟨by have := covF_le (σ 22) (cmC σ) sq r c (n := n) (fun i hi => (hL.2.2 i hi).2.2.2.2); rw [Nat.min_eq_left (by omega)]; simp [aCov, c9, exN, eyN], rfl⟩
  · refine lv_iconst (v := (-1)) hx hb dX8_coverage_12 (by decide) ?_
    exact r_iret CF hr hlk hH hS dX8_coverage_13 ⟨by simp [aCov, c9], rfl⟩

set_option maxRecDepth 100000 in
set_option maxHeartbeats 4000000 in
theorem c_X8_gapCount (l : Launch) (G : Gm) (σ : Sg) (R C n : Nat) (sq : Nat → S4) (hA : CA σ R C n sq) (x : Int32) : Met l yX8_gapCount wsX8_gapCount (rmO 4 114) (PP G [.ref (G.2.1 20), .int x] σ) (QI G (RV (aGapc R C (σ 22) (cmC σ) n sq x) σ)) 0 0 (fr G) := by
  refine r_start (cc := cX8_gapCount) (maxL := 5) (ret := (some .int)) (by decide) rfl (Nat.le_of_ble_eq_true rfl) ?_
  intro pz ez sz mz below meth cz ls CF hr hlk hK hH hS hl
  have CF : CallFix pz mz cz cX8_gapCount 5 sz (List.toArray [.ref (G.2.1 20), .int x]) wsX8_gapCount RX8 := CF
  have hx := CF.1
  have hb := CF.2.1
  have hown := CF.2.2.2.1
  have hts := CF.2.2.2.2
  have hl : lv_has ls 5 [(0, .ref (G.2.1 20)), (1, .int x)] := hl
  have K1 := hts _ (List.mem_of_getElem? (i := 1) rfl)
  have K2 := hts _ (List.mem_of_getElem? (i := 2) rfl)
  have K3 := hts _ (List.mem_of_getElem? (i := 3) rfl)
  have K4 := hts _ (List.mem_of_getElem? (i := 4) rfl)
  have K5 := hts _ (List.mem_of_getElem? (i := 5) rfl)
  have JX7 : ∀ w ∈ wsX70, w ∈ wsX8_gapCount := in_r _ [77, 78, 79] (by decide +kernel)
  have JX8 : ∀ w ∈ wsX80, w ∈ wsX8_gapCount := in_r _ [70, 71, 72, 73, 74, 75, 76] (by decide +kernel)
  obtain ⟨hR, hC, hR3, hR10, hC4, hC16, hh, hL⟩ := hA
  have hn : σ (16 + 0) 0 = nI n := hL.1
  have hn8 := hL.2.1
  refine lv_iload_n hx hb dX8_gapCount_0 rfl (lv_at hl 1 rfl) ?_
  refine lv_iconst (v := 1) hx hb dX8_gapCount_1 (by decide) ?_
  refine lv_bipush (v := 9) hx hb dX8_gapCount_2 (by decide) ?_
  refine r_cR hS (r_runS (n := 3) (As := [.int x, .int (1 : Int32), .int (9 : Int32)]) (rest := []) CF hK hH (c_X8_isWithin l G σ x (1 : Int32) (9 : Int32)) gX8_gapCount_X8_isWithin rfl rfl rfl (by decide +kernel) ⟨⟨Nat.le_of_ble_eq_true rfl, Nat.le_of_ble_eq_true rfl⟩, Nat.le_of_ble_eq_true rfl, Nat.le_of_ble_eq_true rfl⟩ rfl hl.1 rfl (Nat.le_of_ble_eq_true rfl) dX8_gapCount_4) (fun H locs hH hS => ?_)
  refine r_ifneB (tgt := 13) hx hb dX8_gapCount_7 (by decide) (fun c7 => ?_) (fun c7 => ?_)
  · obtain ⟨L, hL1, hL9, eL, eLN⟩ := isW_of (a := 1) (b := 9) c7 (by omega) (by omega)
    refine lv_iconst (v := 0) hx hb dX8_gapCount_13 (by decide) ?_
    refine lv_istore_n (lv' := [(2, .int (0 : Int32)), (0, .ref (G.2.1 20)), (1, .int x)]) hx hb dX8_gapCount_14 rfl hl (by decide) rfl (fun ls hl => ?_)
    refine lv_iconst (v := 0) hx hb dX8_gapCount_15 (by decide) ?_
    refine lv_istore_n (lv' := [(3, .int (0 : Int32)), (2, .int (0 : Int32)), (0, .ref (G.2.1 20)), (1, .int x)]) hx hb dX8_gapCount_16 rfl hl (by decide) rfl (fun ls hl => ?_)
    have lp17 : ∀ (fu : Nat) (i : Nat) (x2 : Int32) (H : Heap) (locs : List Loc) (ls : Array Slot), (R + 1 ≤ i + fu) → (i ≤ R) → (x2 = nI (cnt (gapP (σ 22) (cmC σ) sq n C L) (i * C))) → Hp G σ H → va_S (fr G) sz.heap H locs → lv_has ls 5 [(0, .ref (G.2.1 20)), (1, .int x), (2, .int x2), (3, .int (nI i))] → W pz l ez (rmO 4 114) sz mz (List.toArray [.ref (G.2.1 20), .int x]) below meth cz H locs 0 0 (MQ below (QI G (RV (aGapc R C (σ 22) (cmC σ) n sq x) σ)) (List.toArray [.ref (G.2.1 20), .int x]) sz 0 0 (fr G)) (F0 mz 17 ls []) := by
      intro fu
      induction fu with
      | zero => intros; omega
      | succ fu ih17 =>
        intro i x2 H locs ls hf hi hz hH hS hl
        refine lv_iload_n hx hb dX8_gapCount_17 rfl (lv_at hl 3 rfl) ?_
        refine lv_aload_n hx hb dX8_gapCount_18 rfl (lv_at hl 0 rfl) ?_
        refine r_get CF hK hH 20 (Nat.le_of_ble_eq_true rfl) rfl rfl JX8 0 (by decide) K1 rfl dX8_gapCount_19 ?_
        refine r_get CF hK hH 21 (Nat.le_of_ble_eq_true rfl) rfl rfl JX7 0 (by decide) K2 rfl dX8_gapCount_22 ?_
        refine r_top (show (σ 21 0 : Int32) = nI R from hR) ?_
        refine lv_icmp_ge (tgt := 81) hx hb dX8_gapCount_25 (by decide) (fun c25 => ?_) (fun c25 => ?_)
        · have c25 : R ≤ i := (nI_leI (a := R) (b := i) (by omega) (by omega)).mp c25
          refine lv_iload_n hx hb dX8_gapCount_81 rfl (lv_at hl 2 rfl) ?_
          exact r_iret CF hr hlk hH hS dX8_gapCount_82 ⟨by have e : i = R := (by omega); subst e; simp [aGapc, c7, eLN, hz], rfl⟩
        · have c25 : i < R := Nat.lt_of_not_le (fun zq => c25 ((nI_leI (a := R) (b := i) (by omega) (by omega)).mpr zq))
          refine lv_iconst (v := 0) hx hb dX8_gapCount_28 (by decide) ?_
          refine lv_istore (lv' := [(4, .int (0 : Int32)), (0, .ref (G.2.1 20)), (1, .int x), (2, .int x2), (3, .int (nI i))]) hx hb dX8_gapCount_29 hl (by decide) rfl (fun ls hl => ?_)
          have lp31 : ∀ (fv : Nat) (j : Nat) (y2 : Int32) (H : Heap) (locs : List Loc) (ls : Array Slot), (C + 1 ≤ j + fv) → (j ≤ C) → (y2 = nI (cnt (gapP (σ 22) (cmC σ) sq n C L) ((i * C + j)))) → Hp G σ H → va_S (fr G) sz.heap H locs → lv_has ls 5 [(0, .ref (G.2.1 20)), (1, .int x), (2, .int y2), (3, .int (nI i)), (4, .int (nI j))] → W pz l ez (rmO 4 114) sz mz (List.toArray [.ref (G.2.1 20), .int x]) below meth cz H locs 0 0 (MQ below (QI G (RV (aGapc R C (σ 22) (cmC σ) n sq x) σ)) (List.toArray [.ref (G.2.1 20), .int x]) sz 0 0 (fr G)) (F0 mz 31 ls []) := by
            intro fv
            induction fv with
            | zero => intros; omega
            | succ fv ih31 =>
              intro j y2 H locs ls hg hj hz' hH hS hl
              refine lv_iload hx hb dX8_gapCount_31 (lv_at hl 4 rfl) ?_
              refine lv_aload_n hx hb dX8_gapCount_33 rfl (lv_at hl 0 rfl) ?_
              refine r_get CF hK hH 20 (Nat.le_of_ble_eq_true rfl) rfl rfl JX8 0 (by decide) K1 rfl dX8_gapCount_34 ?_
              refine r_get CF hK hH 21 (Nat.le_of_ble_eq_true rfl) rfl rfl JX7 1 (by decide) K3 rfl dX8_gapCount_37 ?_
              refine r_top (show (σ 21 1 : Int32) = nI C from hC) ?_
              refine lv_icmp_ge (tgt := 75) hx hb dX8_gapCount_40 (by decide) (fun c40 => ?_) (fun c40 => ?_)
              · have c40 : C ≤ j := (nI_leI (a := C) (b := j) (by omega) (by omega)).mp c40
                refine lv_iinc (v := nI (i + 1)) (lv' := [(3, .int (nI (i + 1))), (0, .ref (G.2.1 20)), (1, .int x), (2, .int y2), (4, .int (nI j))]) hx hb dX8_gapCount_75 hl (k := 3) rfl (nI_1 _) (by decide) rfl (fun ls hl => ?_)
                refine lv_goto (tgt := 17) hx hb dX8_gapCount_78 (by decide) ?_
                exact ih17 (i + 1) y2 _ _ ls (by omega) (by omega) (by have e : (i + 1) * C = i * C + j := (by have e2 : j = C := (by omega); rw [e2, Nat.succ_mul]); rw [e]; exact hz') hH hS (lv_sub hl [1, 2, 3, 0] rfl)
              · have c40 : j < C := Nat.lt_of_not_le (fun zq => c40 ((nI_leI (a := C) (b := j) (by omega) (by omega)).mpr zq))
                refine lv_aload_n hx hb dX8_gapCount_43 rfl (lv_at hl 0 rfl) ?_
                refine r_get CF hK hH 20 (Nat.le_of_ble_eq_true rfl) rfl rfl JX8 3 (by decide) K4 rfl dX8_gapCount_44 ?_
                refine lv_aload_n hx hb dX8_gapCount_47 rfl (lv_at hl 0 rfl) ?_
                refine r_get CF hK hH 20 (Nat.le_of_ble_eq_true rfl) rfl rfl JX8 0 (by decide) K1 rfl dX8_gapCount_48 ?_
                refine lv_aload_n hx hb dX8_gapCount_51 rfl (lv_at hl 0 rfl) ?_
                refine r_get CF hK hH 20 (Nat.le_of_ble_eq_true rfl) rfl rfl JX8 1 (by decide) K5 rfl dX8_gapCount_52 ?_
                refine lv_iload_n hx hb dX8_gapCount_55 rfl (lv_at hl 3 rfl) ?_
                refine lv_iload hx hb dX8_gapCount_56 (lv_at hl 4 rfl) ?_
                refine lv_iload_n hx hb dX8_gapCount_58 rfl (lv_at hl 1 rfl) ?_
                refine r_top (show (x : Int32) = nI L from eL) ?_
                refine r_cR hS (r_runV (n := 5) (As := [.ref (G.2.1 21), .ref (G.2.1 23), .int (nI i), .int (nI j), .int (nI L)]) (rest := []) CF hK hH (c_X6_views l G σ 0 (by decide) n sq hL i j L (by omega) (by omega) (by omega) hh) gX8_gapCount_X6_views rfl rfl rfl rfl (by decide +kernel) ⟨⟨Nat.le_of_ble_eq_true rfl, Nat.le_of_ble_eq_true rfl⟩, Nat.le_of_ble_eq_true rfl, Nat.le_of_ble_eq_true rfl⟩ (16 + 0) rfl (by omega) (we_l G (by decide) _) rfl rfl hl.1 rfl (Nat.le_of_ble_eq_true rfl) dX8_gapCount_59) (fun H locs hH hS => ?_)
                refine lv_iload_n hx hb dX8_gapCount_62 rfl (lv_at hl 1 rfl) ?_
                refine r_top (show (x : Int32) = nI L from eL) ?_
                refine lv_icmp_ge (tgt := 69) hx hb dX8_gapCount_63 (by decide) (fun c63 => ?_) (fun c63 => ?_)
                · have c63 : L ≤ min (covF (σ 22) (cmC σ) sq i j n) L := (nI_leI (a := L) (by omega) (by omega)).mp c63
                  have gp : gapP (σ 22) (cmC σ) sq n C L (i * C + j) = false := by rw [gapP_at _ _ _ _ _ (by omega)]; simp; omega
                  refine lv_iinc (v := nI (j + 1)) (lv' := [(4, .int (nI (j + 1))), (0, .ref (G.2.1 20)), (1, .int x), (2, .int y2), (3, .int (nI i))]) hx hb dX8_gapCount_69 hl (k := 4) rfl (nI_1 _) (by decide) rfl (fun ls hl => ?_)
                  refine lv_goto (tgt := 31) hx hb dX8_gapCount_72 (by decide) ?_
                  exact ih31 (j + 1) y2 _ _ ls (by omega) (by omega) (cntF (p := gapP (σ 22) (cmC σ) sq n C L) gp hz') hH hS (lv_sub hl [1, 2, 3, 4, 0] rfl)
                · have c63 : min (covF (σ 22) (cmC σ) sq i j n) L < L := Nat.lt_of_not_le (fun zq => c63 (nI_le zq (by omega)))
                  have gp : gapP (σ 22) (cmC σ) sq n C L (i * C + j) = true := by rw [gapP_at _ _ _ _ _ (by omega)]; simp; omega
                  refine lv_iinc (v := (y2 + (1))) (lv' := [(2, .int (y2 + (1))), (0, .ref (G.2.1 20)), (1, .int x), (3, .int (nI i)), (4, .int (nI j))]) hx hb dX8_gapCount_66 hl (k := 2) rfl rfl (by decide) rfl (fun ls hl => ?_)
                  refine lv_iinc (v := nI (j + 1)) (lv' := [(4, .int (nI (j + 1))), (2, .int (y2 + (1))), (0, .ref (G.2.1 20)), (1, .int x), (3, .int (nI i))]) hx hb dX8_gapCount_69 hl (k := 4) rfl (nI_1 _) (by decide) rfl (fun ls hl => ?_)
                  refine lv_goto (tgt := 31) hx hb dX8_gapCount_72 (by decide) ?_
                  exact ih31 (j + 1) (y2 + (1)) _ _ ls (by omega) (by omega) (cntT (p := gapP (σ 22) (cmC σ) sq n C L) gp hz') hH hS (lv_sub hl [2, 3, 1, 4, 0] rfl)
          exact lp31 (C + 1) 0 x2 _ _ ls (by omega) (by omega) (by exact hz) hH hS (lv_sub hl [1, 2, 3, 4, 0] rfl)
    exact lp17 (R + 1) 0 (0 : Int32) _ _ ls (by omega) (by omega) (by rw [Nat.zero_mul]; rfl) hH hS (lv_sub hl [2, 3, 1, 0] rfl)
  · refine lv_bipush (v := (-4)) hx hb dX8_gapCount_10 (by decide) ?_
    exact r_iret CF hr hlk hH hS dX8_gapCount_12 ⟨by simp [aGapc, c7], rfl⟩

theorem nth_n {p : Nat → Bool} {k a : Nat} (h : nthF p k a = none) (hp : p a = false ∨ ¬ cnt p a = k) : nthF p k (a + 1) = none := by
  simp only [nthF, h]
  rcases hp with hp | hp <;> simp [hp]
theorem nth_s {p : Nat → Bool} {k a : Nat} (h : nthF p k a = none) (hp : p a = true) (hk : cnt p a = k) : nthF p k (a + 1) = some a := by
  simp only [nthF, h]
  simp [hp, hk]
theorem cnt_lt31 (p : Nat → Bool) {i R C : Nat} (j : Nat) (hi : i ≤ R) (hj : j ≤ C) (hR : R ≤ 10) (hC : C ≤ 16) : cnt p (i * C + j) < 2 ^ 31 := by
  have h1 := cnt_le p (i * C + j)
  have h2 : i * C ≤ 10 * 16 := Nat.mul_le_mul (by omega) hC
  omega

set_option maxRecDepth 100000 in
set_option maxHeartbeats 4000000 in
theorem c_X8_gapAt (l : Launch) (G : Gm) (σ : Sg) (R C n : Nat) (sq : Nat → S4) (hA : CA σ R C n sq) (x k : Int32) : Met l yX8_gapAt wsX8_gapAt (rmO 4 114) (PP G [.ref (G.2.1 20), .int x, .int k] σ) (QI G (RV (aGapat R C (σ 22) (cmC σ) n sq x k) σ)) 0 0 (fr G) := by
  refine r_start (cc := cX8_gapAt) (maxL := 6) (ret := (some .int)) (by decide) rfl (Nat.le_of_ble_eq_true rfl) ?_
  intro pz ez sz mz below meth cz ls CF hr hlk hK hH hS hl
  have CF : CallFix pz mz cz cX8_gapAt 6 sz (List.toArray [.ref (G.2.1 20), .int x, .int k]) wsX8_gapAt RX8 := CF
  have hx := CF.1
  have hb := CF.2.1
  have hown := CF.2.2.2.1
  have hts := CF.2.2.2.2
  have hl : lv_has ls 6 [(0, .ref (G.2.1 20)), (1, .int x), (2, .int k)] := hl
  have K1 := hts _ (List.mem_of_getElem? (i := 1) rfl)
  have K2 := hts _ (List.mem_of_getElem? (i := 2) rfl)
  have K3 := hts _ (List.mem_of_getElem? (i := 3) rfl)
  have K4 := hts _ (List.mem_of_getElem? (i := 4) rfl)
  have K5 := hts _ (List.mem_of_getElem? (i := 5) rfl)
  have JX7 : ∀ w ∈ wsX70, w ∈ wsX8_gapAt := in_r _ [77, 78, 79] (by decide +kernel)
  have JX8 : ∀ w ∈ wsX80, w ∈ wsX8_gapAt := in_r _ [70, 71, 72, 73, 74, 75, 76] (by decide +kernel)
  obtain ⟨hR, hC, hR3, hR10, hC4, hC16, hh, hL⟩ := hA
  have hn : σ (16 + 0) 0 = nI n := hL.1
  have hn8 := hL.2.1
  refine lv_iload_n hx hb dX8_gapAt_0 rfl (lv_at hl 1 rfl) ?_
  refine lv_iconst (v := 1) hx hb dX8_gapAt_1 (by decide) ?_
  refine lv_bipush (v := 9) hx hb dX8_gapAt_2 (by decide) ?_
  refine r_cR hS (r_runS (n := 3) (As := [.int x, .int (1 : Int32), .int (9 : Int32)]) (rest := []) CF hK hH (c_X8_isWithin l G σ x (1 : Int32) (9 : Int32)) gX8_gapAt_X8_isWithin rfl rfl rfl (by decide +kernel) ⟨⟨Nat.le_of_ble_eq_true rfl, Nat.le_of_ble_eq_true rfl⟩, Nat.le_of_ble_eq_true rfl, Nat.le_of_ble_eq_true rfl⟩ rfl hl.1 rfl (Nat.le_of_ble_eq_true rfl) dX8_gapAt_4) (fun H locs hH hS => ?_)
  refine r_ifeqB (tgt := 14) hx hb dX8_gapAt_7 (by decide) (fun c7 => ?_) (fun c7 => ?_)
  · refine lv_bipush (v := (-4)) hx hb dX8_gapAt_14 (by decide) ?_
    exact r_iret CF hr hlk hH hS dX8_gapAt_16 ⟨by simp [aGapat, c7], rfl⟩
  · obtain ⟨L, hL1, hL9, eL, eLN⟩ := isW_of (a := 1) (b := 9) c7 (by omega) (by omega)
    refine lv_iload_n hx hb dX8_gapAt_10 rfl (lv_at hl 2 rfl) ?_
    refine lv_if_ge (tgt := 17) hx hb dX8_gapAt_11 (by decide) (fun c11 => ?_) (fun c11 => ?_)
    · have hk0 : ¬ k < 0 := (by grind)
      obtain ⟨kn, hkn, ek⟩ := nI_of hk0
      have ekN := N_of ek hkn
      refine lv_iconst (v := 0) hx hb dX8_gapAt_17 (by decide) ?_
      refine lv_istore_n (lv' := [(3, .int (0 : Int32)), (0, .ref (G.2.1 20)), (1, .int x), (2, .int k)]) hx hb dX8_gapAt_18 rfl hl (by decide) rfl (fun ls hl => ?_)
      refine lv_iconst (v := 0) hx hb dX8_gapAt_19 (by decide) ?_
      refine lv_istore (lv' := [(4, .int (0 : Int32)), (3, .int (0 : Int32)), (0, .ref (G.2.1 20)), (1, .int x), (2, .int k)]) hx hb dX8_gapAt_20 hl (by decide) rfl (fun ls hl => ?_)
      have lp22 : ∀ (fu : Nat) (i : Nat) (x3 : Int32) (H : Heap) (locs : List Loc) (ls : Array Slot), (R + 1 ≤ i + fu) → (i ≤ R) → (x3 = nI (cnt (gapP (σ 22) (cmC σ) sq n C L) (i * C))) → (nthF (gapP (σ 22) (cmC σ) sq n C L) kn (i * C) = none) → Hp G σ H → va_S (fr G) sz.heap H locs → lv_has ls 6 [(0, .ref (G.2.1 20)), (1, .int x), (2, .int k), (3, .int x3), (4, .int (nI i))] → W pz l ez (rmO 4 114) sz mz (List.toArray [.ref (G.2.1 20), .int x, .int k]) below meth cz H locs 0 0 (MQ below (QI G (RV (aGapat R C (σ 22) (cmC σ) n sq x k) σ)) (List.toArray [.ref (G.2.1 20), .int x, .int k]) sz 0 0 (fr G)) (F0 mz 22 ls []) := by
        intro fu
        induction fu with
        | zero => intros; omega
        | succ fu ih22 =>
          intro i x3 H locs ls hf hi hz ht hH hS hl
          refine lv_iload hx hb dX8_gapAt_22 (lv_at hl 4 rfl) ?_
          refine lv_aload_n hx hb dX8_gapAt_24 rfl (lv_at hl 0 rfl) ?_
          refine r_get CF hK hH 20 (Nat.le_of_ble_eq_true rfl) rfl rfl JX8 0 (by decide) K1 rfl dX8_gapAt_25 ?_
          refine r_get CF hK hH 21 (Nat.le_of_ble_eq_true rfl) rfl rfl JX7 0 (by decide) K2 rfl dX8_gapAt_28 ?_
          refine r_top (show (σ 21 0 : Int32) = nI R from hR) ?_
          refine lv_icmp_ge (tgt := 102) hx hb dX8_gapAt_31 (by decide) (fun c31 => ?_) (fun c31 => ?_)
          · have c31 : R ≤ i := (nI_leI (a := R) (b := i) (by omega) (by omega)).mp c31
            refine lv_bipush (v := (-6)) hx hb dX8_gapAt_102 (by decide) ?_
            exact r_iret CF hr hlk hH hS dX8_gapAt_104 ⟨by have e : i = R := (by omega); subst e; simp [aGapat, c7, hk0, eLN, ekN, ht], rfl⟩
          · have c31 : i < R := Nat.lt_of_not_le (fun zq => c31 ((nI_leI (a := R) (b := i) (by omega) (by omega)).mpr zq))
            refine lv_iconst (v := 0) hx hb dX8_gapAt_34 (by decide) ?_
            refine lv_istore (lv' := [(5, .int (0 : Int32)), (0, .ref (G.2.1 20)), (1, .int x), (2, .int k), (3, .int x3), (4, .int (nI i))]) hx hb dX8_gapAt_35 hl (by decide) rfl (fun ls hl => ?_)
            have lp37 : ∀ (fv : Nat) (j : Nat) (y3 : Int32) (H : Heap) (locs : List Loc) (ls : Array Slot), (C + 1 ≤ j + fv) → (j ≤ C) → (y3 = nI (cnt (gapP (σ 22) (cmC σ) sq n C L) ((i * C + j)))) → (nthF (gapP (σ 22) (cmC σ) sq n C L) kn ((i * C + j)) = none) → Hp G σ H → va_S (fr G) sz.heap H locs → lv_has ls 6 [(0, .ref (G.2.1 20)), (1, .int x), (2, .int k), (3, .int y3), (4, .int (nI i)), (5, .int (nI j))] → W pz l ez (rmO 4 114) sz mz (List.toArray [.ref (G.2.1 20), .int x, .int k]) below meth cz H locs 0 0 (MQ below (QI G (RV (aGapat R C (σ 22) (cmC σ) n sq x k) σ)) (List.toArray [.ref (G.2.1 20), .int x, .int k]) sz 0 0 (fr G)) (F0 mz 37 ls []) := by
              intro fv
              induction fv with
              | zero => intros; omega
              | succ fv ih37 =>
                intro j y3 H locs ls hg hj hz' ht' hH hS hl
                refine lv_iload hx hb dX8_gapAt_37 (lv_at hl 5 rfl) ?_
                refine lv_aload_n hx hb dX8_gapAt_39 rfl (lv_at hl 0 rfl) ?_
                refine r_get CF hK hH 20 (Nat.le_of_ble_eq_true rfl) rfl rfl JX8 0 (by decide) K1 rfl dX8_gapAt_40 ?_
                refine r_get CF hK hH 21 (Nat.le_of_ble_eq_true rfl) rfl rfl JX7 1 (by decide) K3 rfl dX8_gapAt_43 ?_
                refine r_top (show (σ 21 1 : Int32) = nI C from hC) ?_
                refine lv_icmp_ge (tgt := 96) hx hb dX8_gapAt_46 (by decide) (fun c46 => ?_) (fun c46 => ?_)
                · have c46 : C ≤ j := (nI_leI (a := C) (b := j) (by omega) (by omega)).mp c46
                  refine lv_iinc (v := nI (i + 1)) (lv' := [(4, .int (nI (i + 1))), (0, .ref (G.2.1 20)), (1, .int x), (2, .int k), (3, .int y3), (5, .int (nI j))]) hx hb dX8_gapAt_96 hl (k := 4) rfl (nI_1 _) (by decide) rfl (fun ls hl => ?_)
                  refine lv_goto (tgt := 22) hx hb dX8_gapAt_99 (by decide) ?_
                  exact ih22 (i + 1) y3 _ _ ls (by omega) (by omega) (by have e : (i + 1) * C = i * C + j := (by have e2 : j = C := (by omega); rw [e2, Nat.succ_mul]); rw [e]; exact hz') (by have e : (i + 1) * C = i * C + j := (by have e2 : j = C := (by omega); rw [e2, Nat.succ_mul]); rw [e]; exact ht') hH hS (lv_sub hl [1, 2, 3, 4, 0] rfl)
                · have c46 : j < C := Nat.lt_of_not_le (fun zq => c46 ((nI_leI (a := C) (b := j) (by omega) (by omega)).mpr zq))
                  refine lv_aload_n hx hb dX8_gapAt_49 rfl (lv_at hl 0 rfl) ?_
                  refine r_get CF hK hH 20 (Nat.le_of_ble_eq_true rfl) rfl rfl JX8 3 (by decide) K4 rfl dX8_gapAt_50 ?_
                  refine lv_aload_n hx hb dX8_gapAt_53 rfl (lv_at hl 0 rfl) ?_
                  refine r_get CF hK hH 20 (Nat.le_of_ble_eq_true rfl) rfl rfl JX8 0 (by decide) K1 rfl dX8_gapAt_54 ?_
                  refine lv_aload_n hx hb dX8_gapAt_57 rfl (lv_at hl 0 rfl) ?_
                  refine r_get CF hK hH 20 (Nat.le_of_ble_eq_true rfl) rfl rfl JX8 1 (by decide) K5 rfl dX8_gapAt_58 ?_
                  refine lv_iload hx hb dX8_gapAt_61 (lv_at hl 4 rfl) ?_
                  refine lv_iload hx hb dX8_gapAt_63 (lv_at hl 5 rfl) ?_
                  refine lv_iload_n hx hb dX8_gapAt_65 rfl (lv_at hl 1 rfl) ?_
                  refine r_top (show (x : Int32) = nI L from eL) ?_
                  refine r_cR hS (r_runV (n := 5) (As := [.ref (G.2.1 21), .ref (G.2.1 23), .int (nI i), .int (nI j), .int (nI L)]) (rest := []) CF hK hH (c_X6_views l G σ 0 (by decide) n sq hL i j L (by omega) (by omega) (by omega) hh) gX8_gapAt_X6_views rfl rfl rfl rfl (by decide +kernel) ⟨⟨Nat.le_of_ble_eq_true rfl, Nat.le_of_ble_eq_true rfl⟩, Nat.le_of_ble_eq_true rfl, Nat.le_of_ble_eq_true rfl⟩ (16 + 0) rfl (by omega) (we_l G (by decide) _) rfl rfl hl.1 rfl (Nat.le_of_ble_eq_true rfl) dX8_gapAt_66) (fun H locs hH hS => ?_)
                  refine lv_iload_n hx hb dX8_gapAt_69 rfl (lv_at hl 1 rfl) ?_
                  refine r_top (show (x : Int32) = nI L from eL) ?_
                  refine lv_icmp_ge (tgt := 90) hx hb dX8_gapAt_70 (by decide) (fun c70 => ?_) (fun c70 => ?_)
                  · have c70 : L ≤ min (covF (σ 22) (cmC σ) sq i j n) L := (nI_leI (a := L) (by omega) (by omega)).mp c70
                    have gp : gapP (σ 22) (cmC σ) sq n C L (i * C + j) = false := by rw [gapP_at _ _ _ _ _ (by omega)]; simp; omega
                    refine lv_iinc (v := nI (j + 1)) (lv' := [(5, .int (nI (j + 1))), (0, .ref (G.2.1 20)), (1, .int x), (2, .int k), (3, .int y3), (4, .int (nI i))]) hx hb dX8_gapAt_90 hl (k := 5) rfl (nI_1 _) (by decide) rfl (fun ls hl => ?_)
                    refine lv_goto (tgt := 37) hx hb dX8_gapAt_93 (by decide) ?_
                    exact ih37 (j + 1) y3 _ _ ls (by omega) (by omega) (cntF (p := gapP (σ 22) (cmC σ) sq n C L) gp hz') (nth_n ht' (Or.inl gp)) hH hS (lv_sub hl [1, 2, 3, 4, 5, 0] rfl)
                  · have c70 : min (covF (σ 22) (cmC σ) sq i j n) L < L := Nat.lt_of_not_le (fun zq => c70 (nI_le zq (by omega)))
                    have gp : gapP (σ 22) (cmC σ) sq n C L (i * C + j) = true := by rw [gapP_at _ _ _ _ _ (by omega)]; simp; omega
                    refine lv_iload_n hx hb dX8_gapAt_73 rfl (lv_at hl 3 rfl) ?_
                    refine lv_iload_n hx hb dX8_gapAt_74 rfl (lv_at hl 2 rfl) ?_
                    refine lv_icmp_ne (tgt := 87) hx hb dX8_gapAt_75 (by decide) (fun c75 => ?_) (fun c75 => ?_)
                    · have c75 : ¬ cnt (gapP (σ 22) (cmC σ) sq n C L) (i * C + j) = kn := fun zq => c75 (by rw [hz', ek, zq])
                      refine lv_iinc (v := (y3 + (1))) (lv' := [(3, .int (y3 + (1))), (0, .ref (G.2.1 20)), (1, .int x), (2, .int k), (4, .int (nI i)), (5, .int (nI j))]) hx hb dX8_gapAt_87 hl (k := 3) rfl rfl (by decide) rfl (fun ls hl => ?_)
                      refine lv_iinc (v := nI (j + 1)) (lv' := [(5, .int (nI (j + 1))), (3, .int (y3 + (1))), (0, .ref (G.2.1 20)), (1, .int x), (2, .int k), (4, .int (nI i))]) hx hb dX8_gapAt_90 hl (k := 5) rfl (nI_1 _) (by decide) rfl (fun ls hl => ?_)
                      refine lv_goto (tgt := 37) hx hb dX8_gapAt_93 (by decide) ?_
                      exact ih37 (j + 1) (y3 + (1)) _ _ ls (by omega) (by omega) (cntT (p := gapP (σ 22) (cmC σ) sq n C L) gp hz') (nth_n ht' (Or.inr c75)) hH hS (lv_sub hl [2, 3, 4, 1, 5, 0] rfl)
                    · have c75 : cnt (gapP (σ 22) (cmC σ) sq n C L) (i * C + j) = kn := (nI_eq (cnt_lt31 _ j hi hj hR10 hC16) hkn).mp (by rw [← hz', ← ek]; exact c75)
                      refine lv_bipush (v := 100) hx hb dX8_gapAt_78 (by decide) ?_
                      refine lv_iload hx hb dX8_gapAt_80 (lv_at hl 4 rfl) ?_
                      refine lv_imul hx hb dX8_gapAt_82 ?_
                      refine lv_iload hx hb dX8_gapAt_83 (lv_at hl 5 rfl) ?_
                      refine lv_iadd hx hb dX8_gapAt_85 ?_
                      refine r_top (show ((((100 : Int32) * (nI i)) + (nI j)) : Int32) = nI (100 * i + j) from (by rw [show (100 : Int32) = nI 100 from rfl, pk_mul, nI_add])) ?_
                      exact r_iret CF hr hlk hH hS dX8_gapAt_86 ⟨by have q := nth_stop (nth_s ht' gp c75) (N := R * C) (lt_mul c31 c46); simp [aGapat, c7, hk0, eLN, ekN, q, dm1 c46, dm2 c46], rfl⟩
            exact lp37 (C + 1) 0 x3 _ _ ls (by omega) (by omega) (by exact hz) (by exact ht) hH hS (lv_sub hl [1, 2, 3, 4, 5, 0] rfl)
      exact lp22 (R + 1) 0 (0 : Int32) _ _ ls (by omega) (by omega) (by rw [Nat.zero_mul]; rfl) (by rw [Nat.zero_mul]; rfl) hH hS (lv_sub hl [2, 3, 4, 1, 0] rfl)
    · refine lv_bipush (v := (-4)) hx hb dX8_gapAt_14 (by decide) ?_
      exact r_iret CF hr hlk hH hS dX8_gapAt_16 ⟨by have q : k < 0 := (by grind); simp [aGapat, q], rfl⟩
