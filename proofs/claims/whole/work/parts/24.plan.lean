def aST (n : Nat) (sq : Nat → S4) (sp : S4) (x : Int32) (e : Bool) : Int32 := if inB x n then nI (ftF sp (sq (NN x)) e) else -2
def aRT (R C n : Nat) (sq : Nat → S4) (sp : S4) (x y : Int32) : Int32 := if inB x R && inB y C then nI (tmO (lsF (toF sp sq n (2 ^ n - 1) (NN x) (NN y)) (2 ^ n - 1) (2 * n))) else -1
def aRS (R C n : Nat) (sq : Nat → S4) (sp : S4) (x y k : Int32) : Int32 := if !(inB x R && inB y C) then -1 else if k < 0 then -4 else if nI n ≤ k then -6 else nI (rtF sp sq n (NN x) (NN y) (NN k)).2

set_option maxRecDepth 100000 in
set_option maxHeartbeats 4000000 in
theorem c_X8_stripTime (l : Launch) (G : Gm) (σ : Sg) (R C n : Nat) (sq : Nat → S4) (hA : CA σ R C n sq) (sp : S4) (hs : AS σ sp) (x : Int32) (e : Bool) : Met l yX8_stripTime wsX8_stripTime (rmO 2 44) (PP G [.ref (G.2.1 20), .int x, .int (b2i e)] σ) (QI G (RV (aST n sq sp x e) σ)) 0 0 (fr G) := by
  refine r_start (cc := cX8_stripTime) (maxL := 4) (ret := (some .int)) (by decide) rfl (Nat.le_of_ble_eq_true rfl) ?_
  intro pz ez sz mz below meth cz ls CF hr hlk hK hH hS hl
  have CF : CallFix pz mz cz cX8_stripTime 4 sz (List.toArray [.ref (G.2.1 20), .int x, .int (b2i e)]) wsX8_stripTime RX8 := CF
  have hx := CF.1
  have hb := CF.2.1
  have hown := CF.2.2.2.1
  have hts := CF.2.2.2.2
  have hl : lv_has ls 4 [(0, .ref (G.2.1 20)), (1, .int x), (2, .int (b2i e))] := hl
  have K1 := hts _ (List.mem_of_getElem? (i := 1) rfl)
  have K2 := hts _ (List.mem_of_getElem? (i := 2) rfl)
  have JX8 : ∀ w ∈ wsX80, w ∈ wsX8_stripTime := in_r _ [26, 27, 28, 29, 30, 31, 32] (by decide +kernel)
  obtain ⟨hR, hC, hR3, hR10, hC4, hC16, hh, hL⟩ := hA
  have hn : σ (16 + 0) 0 = nI n := hL.1
  have hn8 := hL.2.1
  refine lv_aload_n hx hb dX8_stripTime_0 rfl (lv_at hl 0 rfl) ?_
  refine r_get CF hK hH 20 (Nat.le_of_ble_eq_true rfl) rfl rfl JX8 3 (by decide) K1 rfl dX8_stripTime_1 ?_
  refine lv_iload_n hx hb dX8_stripTime_4 rfl (lv_at hl 1 rfl) ?_
  refine r_callq hS (r_runV (n := 1) (As := [.int x]) (rest := []) CF hK hH (c_X6_find l G σ 0 (by decide) n hn hn8 x) gX8_stripTime_X6_find rfl rfl rfl rfl (by decide +kernel) ⟨⟨Nat.le_of_ble_eq_true rfl, Nat.le_of_ble_eq_true rfl⟩, Nat.le_of_ble_eq_true rfl, Nat.le_of_ble_eq_true rfl⟩ (16 + 0) rfl (by omega) (we_l G (by decide) _) rfl rfl hl.1 rfl (Nat.le_of_ble_eq_true rfl) dX8_stripTime_5) (fun rq5 σq5 H locs hq hH hS => ?_)
  obtain ⟨hσ1, hq⟩ := hq
  rw [hσ1] at hH
  rcases hq with ⟨hn5, hr1⟩ | ⟨j5, hj5, hi5, hr1⟩
  · rw [hr1]
    rw [show va_rf none = Value.null from rfl]
    have hin5 := inB_f hn5
    refine lv_astore_nN (lv' := [(3, .null), (0, .ref (G.2.1 20)), (1, .int x), (2, .int (b2i e))]) hx hb dX8_stripTime_8 rfl hl (by decide) rfl (fun ls hl => ?_)
    refine lv_aload_nN hx hb dX8_stripTime_9 rfl (lv_at hl 0 rfl) ?_
    refine lv_ifnonnullN hx hb dX8_stripTime_10 ?_
    refine lv_bipush (v := (-2)) hx hb dX8_stripTime_13 (by decide) ?_
    exact r_iret CF hr hlk hH hS dX8_stripTime_15 ⟨by simp [aST, hin5], rfl⟩
  · rw [hr1]
    rw [show va_rf (some (G.2.1 (8 * 0 + j5))) = Value.ref (G.2.1 (8 * 0 + j5)) from rfl]
    have hin5 := inB_t hj5 hi5 (by omega)
    have hN5 := N_of hi5 (by omega)
    refine lv_astore_n (lv' := [(3, .ref (G.2.1 (8 * 0 + j5))), (0, .ref (G.2.1 20)), (1, .int x), (2, .int (b2i e))]) hx hb dX8_stripTime_8 rfl hl (by decide) rfl (fun ls hl => ?_)
    refine lv_aload_n hx hb dX8_stripTime_9 rfl (lv_at hl 0 rfl) ?_
    refine lv_ifnonnull (tgt := 16) hx hb dX8_stripTime_10 (by decide) ?_
    refine lv_aload_n hx hb dX8_stripTime_16 rfl (lv_at hl 1 rfl) ?_
    refine r_get CF hK hH 20 (Nat.le_of_ble_eq_true rfl) rfl rfl JX8 2 (by decide) K2 rfl dX8_stripTime_17 ?_
    refine lv_aload_n hx hb dX8_stripTime_20 rfl (lv_at hl 0 rfl) ?_
    refine lv_iload_n hx hb dX8_stripTime_21 rfl (lv_at hl 3 rfl) ?_
    refine r_cR hS (r_runV (n := 2) (As := [.ref (G.2.1 (8 * 0 + j5)), .int (b2i e)]) (rest := []) CF hK hH (c_X0_flightTime l G σ (8 * 0 + j5) (by omega) (sq j5) (hL.2.2 j5 (by omega)) sp hs e) gX8_stripTime_X0_flightTime rfl rfl rfl rfl (by decide +kernel) ⟨⟨Nat.le_of_ble_eq_true rfl, Nat.le_of_ble_eq_true rfl⟩, Nat.le_of_ble_eq_true rfl, Nat.le_of_ble_eq_true rfl⟩ 24 rfl (Nat.le_of_ble_eq_true rfl) rfl rfl rfl hl.1 rfl (Nat.le_of_ble_eq_true rfl) dX8_stripTime_22) (fun H locs hH hS => ?_)
    exact r_iret CF hr hlk hH hS dX8_stripTime_25 ⟨by simp [aST, hin5, hN5], rfl⟩

set_option maxRecDepth 100000 in
set_option maxHeartbeats 4000000 in
theorem c_X8_routeTime (l : Launch) (G : Gm) (σ : Sg) (R C n : Nat) (sq : Nat → S4) (hA : CA σ R C n sq) (sp : S4) (hs : AS σ sp) (x y : Int32) : Met l yX8_routeTime wsX8_routeTime (rmO 5 126) (PP G [.ref (G.2.1 20), .int x, .int y] σ) (QI G (fun v σ' => v = aRT R C n sq sp x y ∧ RFr σ σ')) 0 0 (fr G) := by
  refine r_start (cc := cX8_routeTime) (maxL := 3) (ret := (some .int)) (by decide) rfl (Nat.le_of_ble_eq_true rfl) ?_
  intro pz ez sz mz below meth cz ls CF hr hlk hK hH hS hl
  have CF : CallFix pz mz cz cX8_routeTime 3 sz (List.toArray [.ref (G.2.1 20), .int x, .int y]) wsX8_routeTime RX8 := CF
  have hx := CF.1
  have hb := CF.2.1
  have hown := CF.2.2.2.1
  have hts := CF.2.2.2.2
  have hl : lv_has ls 3 [(0, .ref (G.2.1 20)), (1, .int x), (2, .int y)] := hl
  have K1 := hts _ (List.mem_of_getElem? (i := 1) rfl)
  have K2 := hts _ (List.mem_of_getElem? (i := 2) rfl)
  have K3 := hts _ (List.mem_of_getElem? (i := 3) rfl)
  have K4 := hts _ (List.mem_of_getElem? (i := 4) rfl)
  have JX8 : ∀ w ∈ wsX80, w ∈ wsX8_routeTime := in_r _ [88, 89, 90, 91, 92, 93, 94] (by decide +kernel)
  obtain ⟨hR, hC, hR3, hR10, hC4, hC16, hh, hL⟩ := hA
  have hn : σ (16 + 0) 0 = nI n := hL.1
  have hn8 := hL.2.1
  refine lv_aload_n hx hb dX8_routeTime_0 rfl (lv_at hl 0 rfl) ?_
  refine r_get CF hK hH 20 (Nat.le_of_ble_eq_true rfl) rfl rfl JX8 0 (by decide) K1 rfl dX8_routeTime_1 ?_
  refine lv_iload_n hx hb dX8_routeTime_4 rfl (lv_at hl 1 rfl) ?_
  refine lv_iload_n hx hb dX8_routeTime_5 rfl (lv_at hl 2 rfl) ?_
  refine r_cR hS (r_runV (n := 2) (As := [.int x, .int y]) (rest := []) CF hK hH (c_X7_contains l G σ x y) gX8_routeTime_X7_contains rfl rfl rfl rfl (by decide +kernel) ⟨⟨Nat.le_of_ble_eq_true rfl, Nat.le_of_ble_eq_true rfl⟩, Nat.le_of_ble_eq_true rfl, Nat.le_of_ble_eq_true rfl⟩ 21 rfl (Nat.le_of_ble_eq_true rfl) rfl rfl rfl hl.1 rfl (Nat.le_of_ble_eq_true rfl) dX8_routeTime_6) (fun H locs hH hS => ?_)
  refine r_top (show (b2i (isC σ x y) : Int32) = b2i (inB x R && inB y C) from (by rw [isC_eq hR hC])) ?_
  refine r_ifneB (tgt := 14) hx hb dX8_routeTime_9 (by decide) (fun c9 => ?_) (fun c9 => ?_)
  · obtain ⟨r, c, hr1, hc1, ex, ey, exN, eyN⟩ := inC_of c9 hR10 hC16
    refine lv_aload_n hx hb dX8_routeTime_14 rfl (lv_at hl 0 rfl) ?_
    refine r_get CF hK hH 20 (Nat.le_of_ble_eq_true rfl) rfl rfl JX8 6 (by decide) K2 rfl dX8_routeTime_15 ?_
    refine lv_aload_n hx hb dX8_routeTime_18 rfl (lv_at hl 0 rfl) ?_
    refine r_get CF hK hH 20 (Nat.le_of_ble_eq_true rfl) rfl rfl JX8 3 (by decide) K3 rfl dX8_routeTime_19 ?_
    refine lv_aload_n hx hb dX8_routeTime_22 rfl (lv_at hl 0 rfl) ?_
    refine r_get CF hK hH 20 (Nat.le_of_ble_eq_true rfl) rfl rfl JX8 2 (by decide) K4 rfl dX8_routeTime_23 ?_
    refine lv_iload_n hx hb dX8_routeTime_26 rfl (lv_at hl 1 rfl) ?_
    refine r_top (show (x : Int32) = nI r from ex) ?_
    refine lv_iload_n hx hb dX8_routeTime_27 rfl (lv_at hl 2 rfl) ?_
    refine r_top (show (y : Int32) = nI c from ey) ?_
    refine r_calli hS (r_runV (n := 4) (As := [.ref (G.2.1 (16 + 0)), .ref (G.2.1 24), .int (nI r), .int (nI c)]) (rest := []) CF hK hH (c_X4_fastestTime l G σ n sq hL sp hs r c (by omega) (by omega)) gX8_routeTime_X4_fastestTime rfl rfl rfl rfl (by decide +kernel) ⟨⟨Nat.le_of_ble_eq_true rfl, Nat.le_of_ble_eq_true rfl⟩, Nat.le_of_ble_eq_true rfl, Nat.le_of_ble_eq_true rfl⟩ 27 rfl (Nat.le_of_ble_eq_true rfl) rfl rfl rfl hl.1 rfl (Nat.le_of_ble_eq_true rfl) dX8_routeTime_28) (fun r28 σ28 H locs hq hH hS => ?_)
    obtain ⟨hr1, hF⟩ := hq
    exact r_iret CF hr hlk hH hS dX8_routeTime_31 ⟨by simp [aRT, c9, exN, eyN, hr1], hF⟩
  · refine lv_iconst (v := (-1)) hx hb dX8_routeTime_12 (by decide) ?_
    exact r_iret CF hr hlk hH hS dX8_routeTime_13 ⟨by simp [aRT, c9], fun _ _ _ => rfl⟩

set_option maxRecDepth 100000 in
set_option maxHeartbeats 4000000 in
theorem c_X8_routeStep (l : Launch) (G : Gm) (σ : Sg) (R C n : Nat) (sq : Nat → S4) (hA : CA σ R C n sq) (sp : S4) (hs : AS σ sp) (x y k : Int32) : Met l yX8_routeStep wsX8_routeStep (rmO 5 131) (PP G [.ref (G.2.1 20), .int x, .int y, .int k] σ) (QI G (fun v σ' => v = aRS R C n sq sp x y k ∧ RFr σ σ')) 0 0 (fr G) := by
  refine r_start (cc := cX8_routeStep) (maxL := 4) (ret := (some .int)) (by decide) rfl (Nat.le_of_ble_eq_true rfl) ?_
  intro pz ez sz mz below meth cz ls CF hr hlk hK hH hS hl
  have CF : CallFix pz mz cz cX8_routeStep 4 sz (List.toArray [.ref (G.2.1 20), .int x, .int y, .int k]) wsX8_routeStep RX8 := CF
  have hx := CF.1
  have hb := CF.2.1
  have hown := CF.2.2.2.1
  have hts := CF.2.2.2.2
  have hl : lv_has ls 4 [(0, .ref (G.2.1 20)), (1, .int x), (2, .int y), (3, .int k)] := hl
  have K1 := hts _ (List.mem_of_getElem? (i := 1) rfl)
  have K2 := hts _ (List.mem_of_getElem? (i := 2) rfl)
  have K3 := hts _ (List.mem_of_getElem? (i := 3) rfl)
  have K4 := hts _ (List.mem_of_getElem? (i := 4) rfl)
  have K5 := hts _ (List.mem_of_getElem? (i := 5) rfl)
  have JX6 : ∀ w ∈ wsX60, w ∈ wsX8_routeStep := in_r _ [96, 97] (by decide +kernel)
  have JX8 : ∀ w ∈ wsX80, w ∈ wsX8_routeStep := in_r _ [89, 90, 91, 92, 93, 94, 95] (by decide +kernel)
  obtain ⟨hR, hC, hR3, hR10, hC4, hC16, hh, hL⟩ := hA
  have hn : σ (16 + 0) 0 = nI n := hL.1
  have hn8 := hL.2.1
  refine lv_aload_n hx hb dX8_routeStep_0 rfl (lv_at hl 0 rfl) ?_
  refine r_get CF hK hH 20 (Nat.le_of_ble_eq_true rfl) rfl rfl JX8 0 (by decide) K1 rfl dX8_routeStep_1 ?_
  refine lv_iload_n hx hb dX8_routeStep_4 rfl (lv_at hl 1 rfl) ?_
  refine lv_iload_n hx hb dX8_routeStep_5 rfl (lv_at hl 2 rfl) ?_
  refine r_cR hS (r_runV (n := 2) (As := [.int x, .int y]) (rest := []) CF hK hH (c_X7_contains l G σ x y) gX8_routeStep_X7_contains rfl rfl rfl rfl (by decide +kernel) ⟨⟨Nat.le_of_ble_eq_true rfl, Nat.le_of_ble_eq_true rfl⟩, Nat.le_of_ble_eq_true rfl, Nat.le_of_ble_eq_true rfl⟩ 21 rfl (Nat.le_of_ble_eq_true rfl) rfl rfl rfl hl.1 rfl (Nat.le_of_ble_eq_true rfl) dX8_routeStep_6) (fun H locs hH hS => ?_)
  refine r_top (show (b2i (isC σ x y) : Int32) = b2i (inB x R && inB y C) from (by rw [isC_eq hR hC])) ?_
  refine r_ifneB (tgt := 14) hx hb dX8_routeStep_9 (by decide) (fun c9 => ?_) (fun c9 => ?_)
  · obtain ⟨r, c, hr1, hc1, ex, ey, exN, eyN⟩ := inC_of c9 hR10 hC16
    refine lv_iload_n hx hb dX8_routeStep_14 rfl (lv_at hl 3 rfl) ?_
    refine lv_if_ge (tgt := 21) hx hb dX8_routeStep_15 (by decide) (fun c15 => ?_) (fun c15 => ?_)
    · have c15 : ¬ k < 0 := (by grind)
      refine lv_iload_n hx hb dX8_routeStep_21 rfl (lv_at hl 3 rfl) ?_
      refine lv_aload_n hx hb dX8_routeStep_22 rfl (lv_at hl 0 rfl) ?_
      refine r_get CF hK hH 20 (Nat.le_of_ble_eq_true rfl) rfl rfl JX8 3 (by decide) K2 rfl dX8_routeStep_23 ?_
      refine r_get CF hK hH (16 + 0) (by omega) (we_l G (by decide) _) rfl JX6 0 (by decide) K3 rfl dX8_routeStep_26 ?_
      refine r_top (show (σ (16 + 0) 0 : Int32) = nI n from hn) ?_
      refine lv_icmp_lt (tgt := 35) hx hb dX8_routeStep_29 (by decide) (fun c29 => ?_) (fun c29 => ?_)
      · have c29 : ¬ nI n ≤ k := (by grind)
        obtain ⟨kn, hkn, ek⟩ := ((pk_ix k (n := n) (by omega)).resolve_left c15).resolve_left c29
        have ekN := N_of ek (by omega)
        refine lv_aload_n hx hb dX8_routeStep_35 rfl (lv_at hl 0 rfl) ?_
        refine r_get CF hK hH 20 (Nat.le_of_ble_eq_true rfl) rfl rfl JX8 6 (by decide) K4 rfl dX8_routeStep_36 ?_
        refine lv_aload_n hx hb dX8_routeStep_39 rfl (lv_at hl 0 rfl) ?_
        refine r_get CF hK hH 20 (Nat.le_of_ble_eq_true rfl) rfl rfl JX8 3 (by decide) K2 rfl dX8_routeStep_40 ?_
        refine lv_aload_n hx hb dX8_routeStep_43 rfl (lv_at hl 0 rfl) ?_
        refine r_get CF hK hH 20 (Nat.le_of_ble_eq_true rfl) rfl rfl JX8 2 (by decide) K5 rfl dX8_routeStep_44 ?_
        refine lv_iload_n hx hb dX8_routeStep_47 rfl (lv_at hl 1 rfl) ?_
        refine r_top (show (x : Int32) = nI r from ex) ?_
        refine lv_iload_n hx hb dX8_routeStep_48 rfl (lv_at hl 2 rfl) ?_
        refine r_top (show (y : Int32) = nI c from ey) ?_
        refine lv_iload_n hx hb dX8_routeStep_49 rfl (lv_at hl 3 rfl) ?_
        refine r_top (show (k : Int32) = nI kn from ek) ?_
        refine r_calli hS (r_runV (n := 5) (As := [.ref (G.2.1 (16 + 0)), .ref (G.2.1 24), .int (nI r), .int (nI c), .int (nI kn)]) (rest := []) CF hK hH (c_X4_fastestStep l G σ n sq hL sp hs r c (by omega) (by omega) kn hkn) gX8_routeStep_X4_fastestStep rfl rfl rfl rfl (by decide +kernel) ⟨⟨Nat.le_of_ble_eq_true rfl, Nat.le_of_ble_eq_true rfl⟩, Nat.le_of_ble_eq_true rfl, Nat.le_of_ble_eq_true rfl⟩ 27 rfl (Nat.le_of_ble_eq_true rfl) rfl rfl rfl hl.1 rfl (Nat.le_of_ble_eq_true rfl) dX8_routeStep_50) (fun r50 σ50 H locs hq hH hS => ?_)
        obtain ⟨hr1, hF⟩ := hq
        exact r_iret CF hr hlk hH hS dX8_routeStep_53 ⟨by simp [aRS, c9, c15, c29, exN, eyN, ekN, hr1], hF⟩
      · have c29 : nI n ≤ k := (by grind)
        refine lv_bipush (v := (-6)) hx hb dX8_routeStep_32 (by decide) ?_
        exact r_iret CF hr hlk hH hS dX8_routeStep_34 ⟨by simp [aRS, c9, c15, c29], fun _ _ _ => rfl⟩
    · have c15 : k < 0 := (by grind)
      refine lv_bipush (v := (-4)) hx hb dX8_routeStep_18 (by decide) ?_
      exact r_iret CF hr hlk hH hS dX8_routeStep_20 ⟨by simp [aRS, c9, c15], fun _ _ _ => rfl⟩
  · refine lv_iconst (v := (-1)) hx hb dX8_routeStep_12 (by decide) ?_
    exact r_iret CF hr hlk hH hS dX8_routeStep_13 ⟨by simp [aRS, c9], fun _ _ _ => rfl⟩

/-! ===== regular plans ===== -/
def feF (g : Nat → Int32) (cm : Cm) (R C L rs ps : Nat) : Option Nat := if 8 < ndF R rs then none else if 0 < cnt (gapP g cm (sqP rs ps C) (ndF R rs) C L) (R * C) then none else some (totF (sqP rs ps C) (ndF R rs))
def stepP (fe : Option Nat) (o : Option (Nat × Nat × Nat)) (rs ps : Nat) : Option (Nat × Nat × Nat) := match fe with
  | none => o
  | some p => match o with
    | none => some (p, rs, ps)
    | some a => if p < a.1 then some (p, rs, ps) else some a
/-- the best plan among the first z, from the greatest spacings down -/
def bsF (g : Nat → Int32) (cm : Cm) (R C L : Nat) : Nat → Option (Nat × Nat × Nat)
  | 0 => none
  | z + 1 => stepP (feF g cm R C L (R - z / C) (C - z % C)) (bsF g cm R C L z) (R - z / C) (C - z % C)
theorem bs_at (g : Nat → Int32) (cm : Cm) (R : Nat) {C : Nat} (L : Nat) (i : Nat) {j : Nat} (h : j < C) : bsF g cm R C L (i * C + j + 1) = stepP (feF g cm R C L (R - i) (C - j)) (bsF g cm R C L (i * C + j)) (R - i) (C - j) := by
  simp only [bsF]; rw [dm1 h, dm2 h]
theorem tot_le {rs ps C : Nat} (n : Nat) (hC : C ≤ 16) (hps : 1 ≤ ps) : totF (sqP rs ps C) n ≤ 16 * n := by
  induction n with
  | zero => simp [totF]
  | succ n ih =>
    have : phF (sqP rs ps C n) ≤ 16 := by
      unfold phF sqP
      have := Nat.div_le_self (C - 1 - 0) ps
      show (C - 1 - 0) / ps + 1 ≤ 16
      by_cases hC0 : C = 0
      · subst hC0; simp
      · omega
    simp only [totF]; omega
theorem fe_le {g : Nat → Int32} {cm : Cm} {R C L rs ps p : Nat} (hR : R ≤ 10) (hC : C ≤ 16) (hps : 1 ≤ ps) (h : feF g cm R C L rs ps = some p) : p ≤ 160 := by
  unfold feF at h
  split at h
  · cases h
  · split at h
    · cases h
    · cases h
      have := tot_le (rs := rs) (ndF R rs) hC hps
      have := ndF_le (rs := rs) hR
      omega
theorem bs_le {g : Nat → Int32} {cm : Cm} {R C L : Nat} (hR : R ≤ 10) (hC : C ≤ 16) (hC1 : 1 ≤ C) : ∀ z a, bsF g cm R C L z = some a → a.1 ≤ 160 ∧ a.2.1 ≤ R ∧ a.2.2 ≤ C ∧ 1 ≤ a.2.2 := by
  intro z
  induction z with
  | zero => intro a h; cases h
  | succ z ih =>
    intro a h
    have hm : 1 ≤ C - z % C := by have := Nat.mod_lt z (show 0 < C by omega); omega
    simp only [bsF, stepP] at h
    cases hf : feF g cm R C L (R - z / C) (C - z % C) with
    | none => rw [hf] at h; exact ih a h
    | some p =>
      rw [hf] at h
      have hp := fe_le hR hC hm hf
      cases ho : bsF g cm R C L z with
      | none => rw [ho] at h; cases h; exact ⟨hp, Nat.sub_le _ _, Nat.sub_le _ _, hm⟩
      | some b =>
        rw [ho] at h
        dsimp only at h
        split at h
        · cases h; exact ⟨hp, Nat.sub_le _ _, Nat.sub_le _ _, hm⟩
        · cases h; exact ih _ ho
def PFr (σ σ1 : Sg) : Prop := ∀ k, ¬ (8 ≤ k ∧ k < 16) → k ≠ 17 → k ≠ 26 → σ1 k = σ k
theorem PFr.cm {σ σ1 : Sg} (h : PFr σ σ1) : cmC σ1 = cmC σ := by unfold cmC; rw [h 23 (by omega) (by omega) (by omega)]
theorem PFr.lay {σ σ1 : Sg} (h : PFr σ σ1) {rs ps C m : Nat} (hm : m ≤ 8) : PFr σ (layS σ1 1 rs ps C m) := fun k h1 h2 h3 => (layS_n m hm (by omega) (by omega)).trans (h k h1 h2 h3)
def bsV (σ : Sg) (o : Option (Nat × Nat × Nat)) : Prop := ∀ a, o = some a → σ 26 0 = nI a.2.1 ∧ σ 26 1 = nI a.2.2 ∧ σ 26 2 = nI a.1
theorem dec_nI {R i : Nat} (h : i < R) : nI (R - i) + Int32.ofInt (-1) = nI (R - (i + 1)) := by
  rw [show R - i = (R - (i + 1)) + 1 by omega]
  exact pk_m1 _
theorem LS_u26 {σ : Sg} {n f : Nat} {sq : Nat → S4} {v : Int32} (h : LSt σ 1 n sq) : LSt (u2 σ 26 f v) 1 n sq := by
  refine ⟨h.1, h.2.1, fun i hi => ?_⟩
  have h1 := h.2.2 i hi
  have h8 := h.2.1
  unfold VS at *
  rw [u2_n _ _ _ (by omega)]
  exact h1
theorem st_keep {fe : Option Nat} {a : Nat × Nat × Nat} (rs ps : Nat) (h : ∀ p, fe = some p → ¬ p < a.1) : stepP fe (some a) rs ps = some a := by
  cases fe with
  | none => rfl
  | some p => unfold stepP; dsimp only; rw [if_neg (h p rfl)]
theorem fe_val {g : Nat → Int32} {cm : Cm} {R C L rs ps p : Nat} (h : feF g cm R C L rs ps = some p) : p = totF (sqP rs ps C) (ndF R rs) := by
  unfold feF at h
  split at h
  · cases h
  · split at h
    · cases h
    · cases h; rfl
theorem st_none (o : Option (Nat × Nat × Nat)) (rs ps : Nat) : stepP none o rs ps = o := rfl

set_option maxRecDepth 100000 in
set_option maxHeartbeats 4000000 in
theorem c_X3_search (l : Launch) (G : Gm) (σ : Sg) (R C : Nat) (hR : σ 21 0 = nI R) (hC : σ 21 1 = nI C) (hR10 : R ≤ 10) (hC16 : C ≤ 16) (hR3 : 3 ≤ R) (hC4 : 4 ≤ C) (hh : hB (σ 22) (σ 23 0)) (L : Nat) (hL9 : L ≤ 9) : Met l yX3_search wsX3_search (rmO 5 139) (PP G [.ref (G.2.1 26), .ref (G.2.1 21), .ref (G.2.1 23), .int (nI L)] σ) (QI G (fun v σ' => v = b2i (bsF (σ 22) (cmC σ) R C L (R * C)).isSome ∧ PFr σ σ' ∧ bsV σ' (bsF (σ 22) (cmC σ) R C L (R * C)))) 0 0 (fr G) := by
  refine r_start (cc := cX3_search) (maxL := 7) (ret := (some .boolean)) (by decide) rfl (Nat.le_of_ble_eq_true rfl) ?_
  intro pz ez sz mz below meth cz ls CF hr hlk hK hH hS hl
  have CF : CallFix pz mz cz cX3_search 7 sz (List.toArray [.ref (G.2.1 26), .ref (G.2.1 21), .ref (G.2.1 23), .int (nI L)]) wsX3_search RX3 := CF
  have hx := CF.1
  have hb := CF.2.1
  have hown := CF.2.2.2.1
  have hts := CF.2.2.2.2
  have hl : lv_has ls 7 [(0, .ref (G.2.1 26)), (1, .ref (G.2.1 21)), (2, .ref (G.2.1 23)), (3, .int (nI L))] := hl
  have K1 := hts _ (List.mem_of_getElem? (i := 1) rfl)
  have K2 := hts _ (List.mem_of_getElem? (i := 2) rfl)
  have K3 := hts _ (List.mem_of_getElem? (i := 3) rfl)
  have K4 := hts _ (List.mem_of_getElem? (i := 4) rfl)
  have K5 := hts _ (List.mem_of_getElem? (i := 5) rfl)
  have K6 := hts _ (List.mem_of_getElem? (i := 6) rfl)
  have JX3 : ∀ w ∈ wsX30, w ∈ wsX3_search := in_r _ [98, 99, 100, 101] (by decide +kernel)
  have JX7 : ∀ w ∈ wsX70, w ∈ wsX3_search := in_r _ [95, 96, 97] (by decide +kernel)
  have hR1 := hR
  have hC1 := hC
  refine lv_iconst (v := 0) hx hb dX3_search_0 (by decide) ?_
  refine lv_istore (lv' := [(4, .int (0 : Int32)), (0, .ref (G.2.1 26)), (1, .ref (G.2.1 21)), (2, .ref (G.2.1 23)), (3, .int (nI L))]) hx hb dX3_search_1 hl (by decide) rfl (fun ls hl => ?_)
  refine lv_aload_n hx hb dX3_search_3 rfl (lv_at hl 2 rfl) ?_
  refine r_get CF hK hH 21 (Nat.le_of_ble_eq_true rfl) rfl rfl JX7 0 (by decide) K1 rfl dX3_search_4 ?_
  refine r_top (show (σ 21 0 : Int32) = nI (R - 0) from hR) ?_
  refine lv_istore (lv' := [(5, .int (nI (R - 0))), (4, .int (0 : Int32)), (0, .ref (G.2.1 26)), (1, .ref (G.2.1 21)), (2, .ref (G.2.1 23)), (3, .int (nI L))]) hx hb dX3_search_7 hl (by decide) rfl (fun ls hl => ?_)
  have lp9 : ∀ (fu : Nat) (i : Nat) (fo : Bool) (σ1 : Sg) (H : Heap) (locs : List Loc) (ls : Array Slot), (R + 1 ≤ i + fu) → (i ≤ R) → (PFr σ σ1) → (fo = (bsF (σ 22) (cmC σ) R C L (i * C)).isSome) → (bsV σ1 (bsF (σ 22) (cmC σ) R C L (i * C))) → Hp G σ1 H → va_S (fr G) sz.heap H locs → lv_has ls 7 [(0, .ref (G.2.1 26)), (1, .ref (G.2.1 21)), (2, .ref (G.2.1 23)), (3, .int (nI L)), (4, .int (b2i fo)), (5, .int (nI (R - i)))] → W pz l ez (rmO 5 139) sz mz (List.toArray [.ref (G.2.1 26), .ref (G.2.1 21), .ref (G.2.1 23), .int (nI L)]) below meth cz H locs 0 0 (MQ below (QI G (fun v σ' => v = b2i (bsF (σ 22) (cmC σ) R C L (R * C)).isSome ∧ PFr σ σ' ∧ bsV σ' (bsF (σ 22) (cmC σ) R C L (R * C)))) (List.toArray [.ref (G.2.1 26), .ref (G.2.1 21), .ref (G.2.1 23), .int (nI L)]) sz 0 0 (fr G)) (F0 mz 9 ls []) := by
    intro fu
    induction fu with
    | zero => intros; omega
    | succ fu ih9 =>
      intro i fo σ1 H locs ls hfu hi hF hfo hV hH hS hl
      refine lv_iload hx hb dX3_search_9 (lv_at hl 5 rfl) ?_
      refine lv_iconst (v := 1) hx hb dX3_search_11 (by decide) ?_
      refine lv_icmp_lt (tgt := 112) hx hb dX3_search_12 (by decide) (fun c12 => ?_) (fun c12 => ?_)
      · have c12 : R - i < 1 := (nI_ltI (a := R - i) (b := 1) (by omega) (by omega)).mp c12
        refine lv_iload hx hb dX3_search_112 (lv_at hl 4 rfl) ?_
        exact r_zret CF hr hlk hH hS (b2i_nar _) dX3_search_114 ⟨by have e : i = R := (by omega); rw [hfo, e], hF, by have e : i = R := (by omega); subst e; exact hV⟩
      · have c12 : ¬ R - i < 1 := fun zq => c12 ((nI_ltI (a := R - i) (b := 1) (by omega) (by omega)).mpr zq)
        refine lv_aload_n hx hb dX3_search_15 rfl (lv_at hl 1 rfl) ?_
        refine r_get CF hK hH 21 (Nat.le_of_ble_eq_true rfl) rfl rfl JX7 1 (by decide) K2 rfl dX3_search_16 ?_
        refine r_top (show (σ1 21 1 : Int32) = nI (C - 0) from (by rw [hF 21 (by omega) (by omega) (by omega)]; exact hC)) ?_
        refine lv_istore (lv' := [(6, .int (nI (C - 0))), (0, .ref (G.2.1 26)), (1, .ref (G.2.1 21)), (2, .ref (G.2.1 23)), (3, .int (nI L)), (4, .int (b2i fo)), (5, .int (nI (R - i)))]) hx hb dX3_search_19 hl (by decide) rfl (fun ls hl => ?_)
        have lp21 : ∀ (fv : Nat) (j : Nat) (fo : Bool) (σ1' : Sg) (H : Heap) (locs : List Loc) (ls : Array Slot), (C + 1 ≤ j + fv) → (j ≤ C) → (PFr σ σ1') → (fo = (bsF (σ 22) (cmC σ) R C L (i * C + j)).isSome) → (bsV σ1' (bsF (σ 22) (cmC σ) R C L (i * C + j))) → Hp G σ1' H → va_S (fr G) sz.heap H locs → lv_has ls 7 [(0, .ref (G.2.1 26)), (1, .ref (G.2.1 21)), (2, .ref (G.2.1 23)), (3, .int (nI L)), (4, .int (b2i fo)), (5, .int (nI (R - i))), (6, .int (nI (C - j)))] → W pz l ez (rmO 5 139) sz mz (List.toArray [.ref (G.2.1 26), .ref (G.2.1 21), .ref (G.2.1 23), .int (nI L)]) below meth cz H locs 0 0 (MQ below (QI G (fun v σ' => v = b2i (bsF (σ 22) (cmC σ) R C L (R * C)).isSome ∧ PFr σ σ' ∧ bsV σ' (bsF (σ 22) (cmC σ) R C L (R * C)))) (List.toArray [.ref (G.2.1 26), .ref (G.2.1 21), .ref (G.2.1 23), .int (nI L)]) sz 0 0 (fr G)) (F0 mz 21 ls []) := by
          intro fv
          induction fv with
          | zero => intros; omega
          | succ fv ih21 =>
            intro j fo σ1' H locs ls hg hj hF' hfo' hV' hH hS hl
            refine lv_iload hx hb dX3_search_21 (lv_at hl 6 rfl) ?_
            refine lv_iconst (v := 1) hx hb dX3_search_23 (by decide) ?_
            refine lv_icmp_lt (tgt := 106) hx hb dX3_search_24 (by decide) (fun c24 => ?_) (fun c24 => ?_)
            · have c24 : C - j < 1 := (nI_ltI (a := C - j) (b := 1) (by omega) (by omega)).mp c24
              refine lv_iinc (v := nI (R - (i + 1))) (lv' := [(5, .int (nI (R - (i + 1)))), (0, .ref (G.2.1 26)), (1, .ref (G.2.1 21)), (2, .ref (G.2.1 23)), (3, .int (nI L)), (4, .int (b2i fo)), (6, .int (nI (C - j)))]) hx hb dX3_search_106 hl (k := 5) rfl (dec_nI (by omega)) (by decide) rfl (fun ls hl => ?_)
              refine lv_goto (tgt := 9) hx hb dX3_search_109 (by decide) ?_
              exact ih9 (i + 1) fo σ1' _ _ ls (by omega) (by omega) hF' (by have e : (i + 1) * C = i * C + j := (by have e2 : j = C := (by omega); rw [e2, Nat.succ_mul]); rw [e]; exact hfo') (by have e : (i + 1) * C = i * C + j := (by have e2 : j = C := (by omega); rw [e2, Nat.succ_mul]); rw [e]; exact hV') hH hS (lv_sub hl [1, 2, 3, 4, 5, 0] rfl)
            · have c24 : j < C := (by have q : ¬ C - j < 1 := fun zq => c24 ((nI_ltI (a := C - j) (b := 1) (by omega) (by omega)).mpr zq); omega)
              refine lv_aload_n hx hb dX3_search_27 rfl (lv_at hl 0 rfl) ?_
              refine r_get CF hK hH 26 (Nat.le_of_ble_eq_true rfl) rfl rfl JX3 3 (by decide) K3 rfl dX3_search_28 ?_
              refine lv_aload_n hx hb dX3_search_31 rfl (lv_at hl 1 rfl) ?_
              refine lv_iload hx hb dX3_search_32 (lv_at hl 5 rfl) ?_
              refine lv_iload hx hb dX3_search_34 (lv_at hl 6 rfl) ?_
              refine r_calli hS (r_runV (n := 3) (As := [.ref (G.2.1 21), .int (nI (R - i)), .int (nI (C - j))]) (rest := []) CF hK hH (c_X6_layOut l G σ1' 1 (by decide) (R - i) (C - j) R C (by rw [hF' 21 (by omega) (by omega) (by omega)]; exact hR) (by rw [hF' 21 (by omega) (by omega) (by omega)]; exact hC) hR10 hC16 (by omega) (by omega) (by omega)) gX3_search_X6_layOut rfl rfl rfl rfl (by decide +kernel) ⟨⟨Nat.le_of_ble_eq_true rfl, Nat.le_of_ble_eq_true rfl⟩, Nat.le_of_ble_eq_true rfl, Nat.le_of_ble_eq_true rfl⟩ (16 + 1) rfl (by omega) (we_l G (by decide) _) rfl rfl hl.1 rfl (Nat.le_of_ble_eq_true rfl) dX3_search_36) (fun r36 σ36 H locs hq hH hS => ?_)
              by_cases hnd : 8 < ndF R (R - i)
              · rw [if_pos hnd] at hq
                obtain ⟨hr1, hσ1⟩ := hq
                rw [hσ1] at hH
                refine r_top hr1 ?_
                refine r_ifeqB (tgt := 100) hx hb dX3_search_39 (by decide) (fun c39 => ?_) (fun c39 => ?_)
                · refine lv_iinc (v := nI (C - (j + 1))) (lv' := [(6, .int (nI (C - (j + 1)))), (0, .ref (G.2.1 26)), (1, .ref (G.2.1 21)), (2, .ref (G.2.1 23)), (3, .int (nI L)), (4, .int (b2i fo)), (5, .int (nI (R - i)))]) hx hb dX3_search_100 hl (k := 6) rfl (dec_nI (by omega)) (by decide) rfl (fun ls hl => ?_)
                  refine lv_goto (tgt := 21) hx hb dX3_search_103 (by decide) ?_
                  exact ih21 (j + 1) fo σ1' _ _ ls (by omega) (by omega) hF' (by have hfe : feF (σ 22) (cmC σ) R C L (R - i) (C - j) = none := (by unfold feF; rw [if_pos hnd]); rw [show i * C + (j + 1) = i * C + j + 1 from rfl, bs_at _ _ _ _ _ c24, hfe, st_none]; exact hfo') (by have hfe : feF (σ 22) (cmC σ) R C L (R - i) (C - j) = none := (by unfold feF; rw [if_pos hnd]); rw [show i * C + (j + 1) = i * C + j + 1 from rfl, bs_at _ _ _ _ _ c24, hfe, st_none]; exact hV') hH hS (lv_sub hl [1, 2, 3, 4, 5, 6, 0] rfl)
                · exact absurd c39 (by decide)
              · rw [if_neg hnd] at hq
                obtain ⟨hr1, hσ1⟩ := hq
                rw [hσ1] at hH
                refine r_top hr1 ?_
                have hF2 : PFr σ (layS σ1' 1 (R - i) (C - j) C (ndF R (R - i))) := hF'.lay (by omega)
                have hL2 : LSt (layS σ1' 1 (R - i) (C - j) C (ndF R (R - i))) 1 (ndF R (R - i)) (sqP (R - i) (C - j) C) := layS_L (R := R) (by decide) (by omega) (by omega) (by omega) hR10 (by omega) hC16 (by omega) (by omega) (Nat.le_refl _)
                have hR2 : (layS σ1' 1 (R - i) (C - j) C (ndF R (R - i))) 21 0 = nI R := by rw [hF2 21 (by omega) (by omega) (by omega)]; exact hR
                have hC2 : (layS σ1' 1 (R - i) (C - j) C (ndF R (R - i))) 21 1 = nI C := by rw [hF2 21 (by omega) (by omega) (by omega)]; exact hC
                have hh2 : hB ((layS σ1' 1 (R - i) (C - j) C (ndF R (R - i))) 22) ((layS σ1' 1 (R - i) (C - j) C (ndF R (R - i))) 23 0) := by rw [hF2 22 (by omega) (by omega) (by omega), hF2 23 (by omega) (by omega) (by omega)]; exact hh
                have htl := tot_le (rs := R - i) (ps := C - j) (ndF R (R - i)) hC16 (by omega)
                refine r_ifeqB (tgt := 100) hx hb dX3_search_39 (by decide) (fun c39 => ?_) (fun c39 => ?_)
                · exact absurd c39 (by decide)
                · refine lv_iload hx hb dX3_search_42 (lv_at hl 4 rfl) ?_
                  refine r_ifeqB (tgt := 61) hx hb dX3_search_44 (by decide) (fun c44 => ?_) (fun c44 => ?_)
                  · have hob : bsF (σ 22) (cmC σ) R C L (i * C + j) = none := (by rw [hfo'] at c44; cases hq : bsF (σ 22) (cmC σ) R C L (i * C + j) with | none => rfl | some a => rw [hq] at c44; cases c44)
                    refine lv_aload_n hx hb dX3_search_61 rfl (lv_at hl 0 rfl) ?_
                    refine r_get CF hK hH 26 (Nat.le_of_ble_eq_true rfl) rfl rfl JX3 3 (by decide) K3 rfl dX3_search_62 ?_
                    refine lv_aload_n hx hb dX3_search_65 rfl (lv_at hl 1 rfl) ?_
                    refine lv_aload_n hx hb dX3_search_66 rfl (lv_at hl 2 rfl) ?_
                    refine lv_iload_n hx hb dX3_search_67 rfl (lv_at hl 3 rfl) ?_
                    refine r_cR hS (r_runV (n := 3) (As := [.ref (G.2.1 21), .ref (G.2.1 23), .int (nI L)]) (rest := []) CF hK hH (c_X6_leavesGap l G (layS σ1' 1 (R - i) (C - j) C (ndF R (R - i))) 1 (by decide) (ndF R (R - i)) (sqP (R - i) (C - j) C) hL2 R C hR2 hC2 hR10 hC16 L (by omega) hh2) gX3_search_X6_leavesGap rfl rfl rfl rfl (by decide +kernel) ⟨⟨Nat.le_of_ble_eq_true rfl, Nat.le_of_ble_eq_true rfl⟩, Nat.le_of_ble_eq_true rfl, Nat.le_of_ble_eq_true rfl⟩ (16 + 1) rfl (by omega) (we_l G (by decide) _) rfl rfl hl.1 rfl (Nat.le_of_ble_eq_true rfl) dX3_search_68) (fun H locs hH hS => ?_)
                    refine r_top (show (b2i (decide (0 < cnt (gapP ((layS σ1' 1 (R - i) (C - j) C (ndF R (R - i))) 22) (cmC (layS σ1' 1 (R - i) (C - j) C (ndF R (R - i)))) (sqP (R - i) (C - j) C) (ndF R (R - i)) C L) (R * C))) : Int32) = b2i (decide (0 < cnt (gapP (σ 22) (cmC σ) (sqP (R - i) (C - j) C) (ndF R (R - i)) C L) (R * C))) from (by rw [hF2.cm, hF2 22 (by omega) (by omega) (by omega)])) ?_
                    refine r_ifneB (tgt := 100) hx hb dX3_search_71 (by decide) (fun c71 => ?_) (fun c71 => ?_)
                    · refine lv_iinc (v := nI (C - (j + 1))) (lv' := [(6, .int (nI (C - (j + 1)))), (0, .ref (G.2.1 26)), (1, .ref (G.2.1 21)), (2, .ref (G.2.1 23)), (3, .int (nI L)), (4, .int (b2i fo)), (5, .int (nI (R - i)))]) hx hb dX3_search_100 hl (k := 6) rfl (dec_nI (by omega)) (by decide) rfl (fun ls hl => ?_)
                      refine lv_goto (tgt := 21) hx hb dX3_search_103 (by decide) ?_
                      exact ih21 (j + 1) fo (layS σ1' 1 (R - i) (C - j) C (ndF R (R - i))) _ _ ls (by omega) (by omega) hF2 (by have hfe : feF (σ 22) (cmC σ) R C L (R - i) (C - j) = none := (by unfold feF; rw [if_neg hnd, if_pos (by simpa using c71)]); rw [show i * C + (j + 1) = i * C + j + 1 from rfl, bs_at _ _ _ _ _ c24, hfe, st_none]; exact hfo') (by have hfe : feF (σ 22) (cmC σ) R C L (R - i) (C - j) = none := (by unfold feF; rw [if_neg hnd, if_pos (by simpa using c71)]); rw [show i * C + (j + 1) = i * C + j + 1 from rfl, bs_at _ _ _ _ _ c24, hfe, st_none]; intro a ha; rw [layS_n _ (by omega) (by omega) (by omega)]; exact hV' a ha) hH hS (lv_sub hl [1, 2, 3, 4, 5, 6, 0] rfl)
                    · refine lv_iconst (v := 1) hx hb dX3_search_74 (by decide) ?_
                      refine lv_istore (lv' := [(4, .int (1 : Int32)), (0, .ref (G.2.1 26)), (1, .ref (G.2.1 21)), (2, .ref (G.2.1 23)), (3, .int (nI L)), (5, .int (nI (R - i))), (6, .int (nI (C - j)))]) hx hb dX3_search_75 hl (by decide) rfl (fun ls hl => ?_)
                      refine lv_aload_n hx hb dX3_search_77 rfl (lv_at hl 1 rfl) ?_
                      refine lv_iload hx hb dX3_search_78 (lv_at hl 5 rfl) ?_
                      refine r_put CF hK hH hS 26 (Nat.le_of_ble_eq_true rfl) rfl rfl JX3 tyX3 tyX3_ok nmX3 0 (by decide) K5 rfl (by decide +kernel) (Nat.le_of_ble_eq_true rfl) rfl dX3_search_80 (fun H locs hH hS => ?_)
                      refine lv_aload_n hx hb dX3_search_83 rfl (lv_at hl 1 rfl) ?_
                      refine lv_iload hx hb dX3_search_84 (lv_at hl 6 rfl) ?_
                      refine r_put CF hK hH hS 26 (Nat.le_of_ble_eq_true rfl) rfl rfl JX3 tyX3 tyX3_ok nmX3 1 (by decide) K6 rfl (by decide +kernel) (Nat.le_of_ble_eq_true rfl) rfl dX3_search_86 (fun H locs hH hS => ?_)
                      refine lv_aload_n hx hb dX3_search_89 rfl (lv_at hl 1 rfl) ?_
                      refine lv_aload_n hx hb dX3_search_90 rfl (lv_at hl 1 rfl) ?_
                      refine r_get CF hK hH 26 (Nat.le_of_ble_eq_true rfl) rfl rfl JX3 3 (by decide) K3 rfl dX3_search_91 ?_
                      refine r_cR hS (r_runV (n := 0) (As := []) (rest := [.ref (G.2.1 26)]) CF hK hH (c_X6_photoTotal l G (u2 (u2 (layS σ1' 1 (R - i) (C - j) C (ndF R (R - i))) 26 0 (nI (R - i))) 26 1 (nI (C - j))) 1 (by decide) (ndF R (R - i)) (sqP (R - i) (C - j) C) (LS_u26 (LS_u26 hL2))) gX3_search_X6_photoTotal rfl rfl rfl rfl (by decide +kernel) ⟨⟨Nat.le_of_ble_eq_true rfl, Nat.le_of_ble_eq_true rfl⟩, Nat.le_of_ble_eq_true rfl, Nat.le_of_ble_eq_true rfl⟩ (16 + 1) rfl (by omega) (we_l G (by decide) _) rfl rfl hl.1 rfl (Nat.le_of_ble_eq_true rfl) dX3_search_94) (fun H locs hH hS => ?_)
                      refine r_put CF hK hH hS 26 (Nat.le_of_ble_eq_true rfl) rfl rfl JX3 tyX3 tyX3_ok nmX3 2 (by decide) K4 rfl (by decide +kernel) (Nat.le_of_ble_eq_true rfl) rfl dX3_search_97 (fun H locs hH hS => ?_)
                      refine lv_iinc (v := nI (C - (j + 1))) (lv' := [(6, .int (nI (C - (j + 1)))), (4, .int (1 : Int32)), (0, .ref (G.2.1 26)), (1, .ref (G.2.1 21)), (2, .ref (G.2.1 23)), (3, .int (nI L)), (5, .int (nI (R - i)))]) hx hb dX3_search_100 hl (k := 6) rfl (dec_nI (by omega)) (by decide) rfl (fun ls hl => ?_)
                      refine lv_goto (tgt := 21) hx hb dX3_search_103 (by decide) ?_
                      exact ih21 (j + 1) true (u2 (u2 (u2 (layS σ1' 1 (R - i) (C - j) C (ndF R (R - i))) 26 0 (nI (R - i))) 26 1 (nI (C - j))) 26 2 (nI (totF (sqP (R - i) (C - j) C) (ndF R (R - i))))) _ _ ls (by omega) (by omega) (fun k h1 h2 h3 => by rw [u2_n _ _ _ h3, u2_n _ _ _ h3, u2_n _ _ _ h3]; exact hF2 k h1 h2 h3) (by have hfe : feF (σ 22) (cmC σ) R C L (R - i) (C - j) = some (totF (sqP (R - i) (C - j) C) (ndF R (R - i))) := (by unfold feF; rw [if_neg hnd, if_neg (by simpa using c71)]); have hst : bsF (σ 22) (cmC σ) R C L (i * C + (j + 1)) = some (totF (sqP (R - i) (C - j) C) (ndF R (R - i)), R - i, C - j) := (by rw [show i * C + (j + 1) = i * C + j + 1 from rfl, bs_at _ _ _ _ _ c24, hfe, hob]; rfl); rw [hst]; rfl) (by have hfe : feF (σ 22) (cmC σ) R C L (R - i) (C - j) = some (totF (sqP (R - i) (C - j) C) (ndF R (R - i))) := (by unfold feF; rw [if_neg hnd, if_neg (by simpa using c71)]); have hst : bsF (σ 22) (cmC σ) R C L (i * C + (j + 1)) = some (totF (sqP (R - i) (C - j) C) (ndF R (R - i)), R - i, C - j) := (by rw [show i * C + (j + 1) = i * C + j + 1 from rfl, bs_at _ _ _ _ _ c24, hfe, hob]; rfl); rw [hst]; intro a ha; cases ha; exact ⟨rfl, rfl, rfl⟩) hH hS (lv_sub hl [2, 3, 4, 5, 1, 6, 0] rfl)
                  · obtain ⟨aa, hob⟩ : ∃ aa, bsF (σ 22) (cmC σ) R C L (i * C + j) = some aa := (by rw [hfo'] at c44; cases hq : bsF (σ 22) (cmC σ) R C L (i * C + j) with | none => rw [hq] at c44; cases c44 | some a => exact ⟨a, rfl⟩)
                    have haa := (bs_le hR10 hC16 (by omega) _ _ hob).1
                    refine lv_aload_n hx hb dX3_search_47 rfl (lv_at hl 0 rfl) ?_
                    refine r_get CF hK hH 26 (Nat.le_of_ble_eq_true rfl) rfl rfl JX3 3 (by decide) K3 rfl dX3_search_48 ?_
                    refine r_cR hS (r_runV (n := 0) (As := []) (rest := []) CF hK hH (c_X6_photoTotal l G (layS σ1' 1 (R - i) (C - j) C (ndF R (R - i))) 1 (by decide) (ndF R (R - i)) (sqP (R - i) (C - j) C) hL2) gX3_search_X6_photoTotal rfl rfl rfl rfl (by decide +kernel) ⟨⟨Nat.le_of_ble_eq_true rfl, Nat.le_of_ble_eq_true rfl⟩, Nat.le_of_ble_eq_true rfl, Nat.le_of_ble_eq_true rfl⟩ (16 + 1) rfl (by omega) (we_l G (by decide) _) rfl rfl hl.1 rfl (Nat.le_of_ble_eq_true rfl) dX3_search_51) (fun H locs hH hS => ?_)
                    refine lv_aload_n hx hb dX3_search_54 rfl (lv_at hl 0 rfl) ?_
                    refine r_get CF hK hH 26 (Nat.le_of_ble_eq_true rfl) rfl rfl JX3 2 (by decide) K4 rfl dX3_search_55 ?_
                    refine r_top (show ((layS σ1' 1 (R - i) (C - j) C (ndF R (R - i))) 26 2 : Int32) = nI aa.1 from (by rw [layS_n _ (by omega) (by omega) (by omega)]; exact (hV' _ hob).2.2)) ?_
                    refine lv_icmp_ge (tgt := 100) hx hb dX3_search_58 (by decide) (fun c58 => ?_) (fun c58 => ?_)
                    · have c58 : ¬ totF (sqP (R - i) (C - j) C) (ndF R (R - i)) < aa.1 := (by have := (nI_leI (a := aa.1) (b := totF (sqP (R - i) (C - j) C) (ndF R (R - i))) (by omega) (by omega)).mp c58; omega)
                      refine lv_iinc (v := nI (C - (j + 1))) (lv' := [(6, .int (nI (C - (j + 1)))), (0, .ref (G.2.1 26)), (1, .ref (G.2.1 21)), (2, .ref (G.2.1 23)), (3, .int (nI L)), (4, .int (b2i fo)), (5, .int (nI (R - i)))]) hx hb dX3_search_100 hl (k := 6) rfl (dec_nI (by omega)) (by decide) rfl (fun ls hl => ?_)
                      refine lv_goto (tgt := 21) hx hb dX3_search_103 (by decide) ?_
                      exact ih21 (j + 1) fo (layS σ1' 1 (R - i) (C - j) C (ndF R (R - i))) _ _ ls (by omega) (by omega) hF2 (by have hst : bsF (σ 22) (cmC σ) R C L (i * C + (j + 1)) = bsF (σ 22) (cmC σ) R C L (i * C + j) := (by rw [show i * C + (j + 1) = i * C + j + 1 from rfl, bs_at _ _ _ _ _ c24, hob]; exact st_keep _ _ (fun p hp => by rw [fe_val hp]; exact c58)); rw [hst]; exact hfo') (by have hst : bsF (σ 22) (cmC σ) R C L (i * C + (j + 1)) = bsF (σ 22) (cmC σ) R C L (i * C + j) := (by rw [show i * C + (j + 1) = i * C + j + 1 from rfl, bs_at _ _ _ _ _ c24, hob]; exact st_keep _ _ (fun p hp => by rw [fe_val hp]; exact c58)); rw [hst]; intro a ha; rw [layS_n _ (by omega) (by omega) (by omega)]; exact hV' a ha) hH hS (lv_sub hl [1, 2, 3, 4, 5, 6, 0] rfl)
                    · have c58 : totF (sqP (R - i) (C - j) C) (ndF R (R - i)) < aa.1 := Nat.lt_of_not_le (fun zq => c58 ((nI_leI (a := aa.1) (b := totF (sqP (R - i) (C - j) C) (ndF R (R - i))) (by omega) (by omega)).mpr zq))
                      refine lv_aload_n hx hb dX3_search_61 rfl (lv_at hl 0 rfl) ?_
                      refine r_get CF hK hH 26 (Nat.le_of_ble_eq_true rfl) rfl rfl JX3 3 (by decide) K3 rfl dX3_search_62 ?_
                      refine lv_aload_n hx hb dX3_search_65 rfl (lv_at hl 1 rfl) ?_
                      refine lv_aload_n hx hb dX3_search_66 rfl (lv_at hl 2 rfl) ?_
                      refine lv_iload_n hx hb dX3_search_67 rfl (lv_at hl 3 rfl) ?_
                      refine r_cR hS (r_runV (n := 3) (As := [.ref (G.2.1 21), .ref (G.2.1 23), .int (nI L)]) (rest := []) CF hK hH (c_X6_leavesGap l G (layS σ1' 1 (R - i) (C - j) C (ndF R (R - i))) 1 (by decide) (ndF R (R - i)) (sqP (R - i) (C - j) C) hL2 R C hR2 hC2 hR10 hC16 L (by omega) hh2) gX3_search_X6_leavesGap rfl rfl rfl rfl (by decide +kernel) ⟨⟨Nat.le_of_ble_eq_true rfl, Nat.le_of_ble_eq_true rfl⟩, Nat.le_of_ble_eq_true rfl, Nat.le_of_ble_eq_true rfl⟩ (16 + 1) rfl (by omega) (we_l G (by decide) _) rfl rfl hl.1 rfl (Nat.le_of_ble_eq_true rfl) dX3_search_68) (fun H locs hH hS => ?_)
                      refine r_top (show (b2i (decide (0 < cnt (gapP ((layS σ1' 1 (R - i) (C - j) C (ndF R (R - i))) 22) (cmC (layS σ1' 1 (R - i) (C - j) C (ndF R (R - i)))) (sqP (R - i) (C - j) C) (ndF R (R - i)) C L) (R * C))) : Int32) = b2i (decide (0 < cnt (gapP (σ 22) (cmC σ) (sqP (R - i) (C - j) C) (ndF R (R - i)) C L) (R * C))) from (by rw [hF2.cm, hF2 22 (by omega) (by omega) (by omega)])) ?_
                      refine r_ifneB (tgt := 100) hx hb dX3_search_71 (by decide) (fun c71 => ?_) (fun c71 => ?_)
                      · refine lv_iinc (v := nI (C - (j + 1))) (lv' := [(6, .int (nI (C - (j + 1)))), (0, .ref (G.2.1 26)), (1, .ref (G.2.1 21)), (2, .ref (G.2.1 23)), (3, .int (nI L)), (4, .int (b2i fo)), (5, .int (nI (R - i)))]) hx hb dX3_search_100 hl (k := 6) rfl (dec_nI (by omega)) (by decide) rfl (fun ls hl => ?_)
                        refine lv_goto (tgt := 21) hx hb dX3_search_103 (by decide) ?_
                        exact ih21 (j + 1) fo (layS σ1' 1 (R - i) (C - j) C (ndF R (R - i))) _ _ ls (by omega) (by omega) hF2 (by have hfe : feF (σ 22) (cmC σ) R C L (R - i) (C - j) = none := (by unfold feF; rw [if_neg hnd, if_pos (by simpa using c71)]); rw [show i * C + (j + 1) = i * C + j + 1 from rfl, bs_at _ _ _ _ _ c24, hfe, st_none]; exact hfo') (by have hfe : feF (σ 22) (cmC σ) R C L (R - i) (C - j) = none := (by unfold feF; rw [if_neg hnd, if_pos (by simpa using c71)]); rw [show i * C + (j + 1) = i * C + j + 1 from rfl, bs_at _ _ _ _ _ c24, hfe, st_none]; intro a ha; rw [layS_n _ (by omega) (by omega) (by omega)]; exact hV' a ha) hH hS (lv_sub hl [1, 2, 3, 4, 5, 6, 0] rfl)
                      · refine lv_iconst (v := 1) hx hb dX3_search_74 (by decide) ?_
                        refine lv_istore (lv' := [(4, .int (1 : Int32)), (0, .ref (G.2.1 26)), (1, .ref (G.2.1 21)), (2, .ref (G.2.1 23)), (3, .int (nI L)), (5, .int (nI (R - i))), (6, .int (nI (C - j)))]) hx hb dX3_search_75 hl (by decide) rfl (fun ls hl => ?_)
                        refine lv_aload_n hx hb dX3_search_77 rfl (lv_at hl 1 rfl) ?_
                        refine lv_iload hx hb dX3_search_78 (lv_at hl 5 rfl) ?_
                        refine r_put CF hK hH hS 26 (Nat.le_of_ble_eq_true rfl) rfl rfl JX3 tyX3 tyX3_ok nmX3 0 (by decide) K5 rfl (by decide +kernel) (Nat.le_of_ble_eq_true rfl) rfl dX3_search_80 (fun H locs hH hS => ?_)
                        refine lv_aload_n hx hb dX3_search_83 rfl (lv_at hl 1 rfl) ?_
                        refine lv_iload hx hb dX3_search_84 (lv_at hl 6 rfl) ?_
                        refine r_put CF hK hH hS 26 (Nat.le_of_ble_eq_true rfl) rfl rfl JX3 tyX3 tyX3_ok nmX3 1 (by decide) K6 rfl (by decide +kernel) (Nat.le_of_ble_eq_true rfl) rfl dX3_search_86 (fun H locs hH hS => ?_)
                        refine lv_aload_n hx hb dX3_search_89 rfl (lv_at hl 1 rfl) ?_
                        refine lv_aload_n hx hb dX3_search_90 rfl (lv_at hl 1 rfl) ?_
                        refine r_get CF hK hH 26 (Nat.le_of_ble_eq_true rfl) rfl rfl JX3 3 (by decide) K3 rfl dX3_search_91 ?_
                        refine r_cR hS (r_runV (n := 0) (As := []) (rest := [.ref (G.2.1 26)]) CF hK hH (c_X6_photoTotal l G (u2 (u2 (layS σ1' 1 (R - i) (C - j) C (ndF R (R - i))) 26 0 (nI (R - i))) 26 1 (nI (C - j))) 1 (by decide) (ndF R (R - i)) (sqP (R - i) (C - j) C) (LS_u26 (LS_u26 hL2))) gX3_search_X6_photoTotal rfl rfl rfl rfl (by decide +kernel) ⟨⟨Nat.le_of_ble_eq_true rfl, Nat.le_of_ble_eq_true rfl⟩, Nat.le_of_ble_eq_true rfl, Nat.le_of_ble_eq_true rfl⟩ (16 + 1) rfl (by omega) (we_l G (by decide) _) rfl rfl hl.1 rfl (Nat.le_of_ble_eq_true rfl) dX3_search_94) (fun H locs hH hS => ?_)
                        refine r_put CF hK hH hS 26 (Nat.le_of_ble_eq_true rfl) rfl rfl JX3 tyX3 tyX3_ok nmX3 2 (by decide) K4 rfl (by decide +kernel) (Nat.le_of_ble_eq_true rfl) rfl dX3_search_97 (fun H locs hH hS => ?_)
                        refine lv_iinc (v := nI (C - (j + 1))) (lv' := [(6, .int (nI (C - (j + 1)))), (4, .int (1 : Int32)), (0, .ref (G.2.1 26)), (1, .ref (G.2.1 21)), (2, .ref (G.2.1 23)), (3, .int (nI L)), (5, .int (nI (R - i)))]) hx hb dX3_search_100 hl (k := 6) rfl (dec_nI (by omega)) (by decide) rfl (fun ls hl => ?_)
                        refine lv_goto (tgt := 21) hx hb dX3_search_103 (by decide) ?_
                        exact ih21 (j + 1) true (u2 (u2 (u2 (layS σ1' 1 (R - i) (C - j) C (ndF R (R - i))) 26 0 (nI (R - i))) 26 1 (nI (C - j))) 26 2 (nI (totF (sqP (R - i) (C - j) C) (ndF R (R - i))))) _ _ ls (by omega) (by omega) (fun k h1 h2 h3 => by rw [u2_n _ _ _ h3, u2_n _ _ _ h3, u2_n _ _ _ h3]; exact hF2 k h1 h2 h3) (by have hfe : feF (σ 22) (cmC σ) R C L (R - i) (C - j) = some (totF (sqP (R - i) (C - j) C) (ndF R (R - i))) := (by unfold feF; rw [if_neg hnd, if_neg (by simpa using c71)]); have hst : bsF (σ 22) (cmC σ) R C L (i * C + (j + 1)) = some (totF (sqP (R - i) (C - j) C) (ndF R (R - i)), R - i, C - j) := (by rw [show i * C + (j + 1) = i * C + j + 1 from rfl, bs_at _ _ _ _ _ c24, hfe, hob]; unfold stepP; dsimp only; rw [if_pos c58]); rw [hst]; rfl) (by have hfe : feF (σ 22) (cmC σ) R C L (R - i) (C - j) = some (totF (sqP (R - i) (C - j) C) (ndF R (R - i))) := (by unfold feF; rw [if_neg hnd, if_neg (by simpa using c71)]); have hst : bsF (σ 22) (cmC σ) R C L (i * C + (j + 1)) = some (totF (sqP (R - i) (C - j) C) (ndF R (R - i)), R - i, C - j) := (by rw [show i * C + (j + 1) = i * C + j + 1 from rfl, bs_at _ _ _ _ _ c24, hfe, hob]; unfold stepP; dsimp only; rw [if_pos c58]); rw [hst]; intro a ha; cases ha; exact ⟨rfl, rfl, rfl⟩) hH hS (lv_sub hl [2, 3, 4, 5, 1, 6, 0] rfl)
        exact lp21 (C + 1) 0 fo σ1 _ _ ls (by omega) (by omega) hF hfo hV hH hS (lv_sub hl [1, 2, 3, 4, 5, 6, 0] rfl)
  exact lp9 (R + 1) 0 false σ _ _ ls (by omega) (by omega) (fun _ _ _ _ => rfl) (by rw [Nat.zero_mul]; rfl) (by rw [Nat.zero_mul]; intro a ha; cases ha) hH hS (lv_sub hl [2, 3, 4, 5, 1, 0] rfl)
