def aPln (R C : Nat) (g : Nat → Int32) (cm : Cm) (x : Int32) (w : Nat × Nat × Nat → Nat) : Int32 := if isW x 1 9 then (match bsF g cm R C (NN x) (R * C) with
  | some a => nI (w a)
  | none => -6) else -4
theorem bs_ok {g : Nat → Int32} {cm : Cm} {R C L : Nat} (hC1 : 1 ≤ C) : ∀ z, z ≤ R * C → ∀ a, bsF g cm R C L z = some a → 1 ≤ a.2.1 ∧ ¬ 8 < ndF R a.2.1 := by
  intro z
  induction z with
  | zero => intro _ a h; cases h
  | succ z ih =>
    intro hz a h
    have hd : z / C < R := (Nat.div_lt_iff_lt_mul (by omega)).mpr (by omega)
    simp only [bsF, stepP] at h
    cases hf : feF g cm R C L (R - z / C) (C - z % C) with
    | none => rw [hf] at h; exact ih (by omega) a h
    | some p =>
      rw [hf] at h
      have hn : ¬ 8 < ndF R (R - z / C) := by
        intro q
        unfold feF at hf
        rw [if_pos q] at hf
        cases hf
      cases ho : bsF g cm R C L z with
      | none => rw [ho] at h; cases h; exact ⟨show 1 ≤ R - z / C by omega, hn⟩
      | some b =>
        rw [ho] at h
        dsimp only at h
        split at h
        · cases h; exact ⟨show 1 ≤ R - z / C by omega, hn⟩
        · cases h; exact ih (by omega) _ ho

set_option maxRecDepth 100000 in
set_option maxHeartbeats 4000000 in
theorem c_X8_planPhotos (l : Launch) (G : Gm) (σ : Sg) (R C n : Nat) (sq : Nat → S4) (hA : CA σ R C n sq) (x : Int32) : Met l yX8_planPhotos wsX8_planPhotos (rmO 6 165) (PP G [.ref (G.2.1 20), .int x] σ) (QI G (fun v σ' => v = aPln R C (σ 22) (cmC σ) x (fun a => a.1) ∧ PFr σ σ')) 0 0 (fr G) := by
  refine r_start (cc := cX8_planPhotos) (maxL := 2) (ret := (some .int)) (by decide) rfl (Nat.le_of_ble_eq_true rfl) ?_
  intro pz ez sz mz below meth cz ls CF hr hlk hK hH hS hl
  have CF : CallFix pz mz cz cX8_planPhotos 2 sz (List.toArray [.ref (G.2.1 20), .int x]) wsX8_planPhotos RX8 := CF
  have hx := CF.1
  have hb := CF.2.1
  have hown := CF.2.2.2.1
  have hts := CF.2.2.2.2
  have hl : lv_has ls 2 [(0, .ref (G.2.1 20)), (1, .int x)] := hl
  have K1 := hts _ (List.mem_of_getElem? (i := 1) rfl)
  have K2 := hts _ (List.mem_of_getElem? (i := 2) rfl)
  have K3 := hts _ (List.mem_of_getElem? (i := 3) rfl)
  have K4 := hts _ (List.mem_of_getElem? (i := 4) rfl)
  have JX3 : ∀ w ∈ wsX30, w ∈ wsX8_planPhotos := in_r _ [114, 115, 116, 117] (by decide +kernel)
  have JX8 : ∀ w ∈ wsX80, w ∈ wsX8_planPhotos := in_r _ [107, 108, 109, 110, 111, 112, 113] (by decide +kernel)
  obtain ⟨hR, hC, hR3, hR10, hC4, hC16, hh, hL⟩ := hA
  have hn : σ (16 + 0) 0 = nI n := hL.1
  have hn8 := hL.2.1
  refine lv_iload_n hx hb dX8_planPhotos_0 rfl (lv_at hl 1 rfl) ?_
  refine lv_iconst (v := 1) hx hb dX8_planPhotos_1 (by decide) ?_
  refine lv_bipush (v := 9) hx hb dX8_planPhotos_2 (by decide) ?_
  refine r_cR hS (r_runS (n := 3) (As := [.int x, .int (1 : Int32), .int (9 : Int32)]) (rest := []) CF hK hH (c_X8_isWithin l G σ x (1 : Int32) (9 : Int32)) gX8_planPhotos_X8_isWithin rfl rfl rfl (by decide +kernel) ⟨⟨Nat.le_of_ble_eq_true rfl, Nat.le_of_ble_eq_true rfl⟩, Nat.le_of_ble_eq_true rfl, Nat.le_of_ble_eq_true rfl⟩ rfl hl.1 rfl (Nat.le_of_ble_eq_true rfl) dX8_planPhotos_4) (fun H locs hH hS => ?_)
  refine r_ifneB (tgt := 13) hx hb dX8_planPhotos_7 (by decide) (fun c7 => ?_) (fun c7 => ?_)
  · obtain ⟨L, hL1, hL9, eL, eLN⟩ := isW_of (a := 1) (b := 9) c7 (by omega) (by omega)
    refine lv_aload_n hx hb dX8_planPhotos_13 rfl (lv_at hl 0 rfl) ?_
    refine r_get CF hK hH 20 (Nat.le_of_ble_eq_true rfl) rfl rfl JX8 5 (by decide) K1 rfl dX8_planPhotos_14 ?_
    refine lv_aload_n hx hb dX8_planPhotos_17 rfl (lv_at hl 0 rfl) ?_
    refine r_get CF hK hH 20 (Nat.le_of_ble_eq_true rfl) rfl rfl JX8 0 (by decide) K2 rfl dX8_planPhotos_18 ?_
    refine lv_aload_n hx hb dX8_planPhotos_21 rfl (lv_at hl 0 rfl) ?_
    refine r_get CF hK hH 20 (Nat.le_of_ble_eq_true rfl) rfl rfl JX8 1 (by decide) K3 rfl dX8_planPhotos_22 ?_
    refine lv_iload_n hx hb dX8_planPhotos_25 rfl (lv_at hl 1 rfl) ?_
    refine r_top (show (x : Int32) = nI L from eL) ?_
    refine r_calli hS (r_runV (n := 3) (As := [.ref (G.2.1 21), .ref (G.2.1 23), .int (nI L)]) (rest := []) CF hK hH (c_X3_search l G σ R C hR hC hR10 hC16 hR3 hC4 hh L (by omega)) gX8_planPhotos_X3_search rfl rfl rfl rfl (by decide +kernel) ⟨⟨Nat.le_of_ble_eq_true rfl, Nat.le_of_ble_eq_true rfl⟩, Nat.le_of_ble_eq_true rfl, Nat.le_of_ble_eq_true rfl⟩ 26 rfl (Nat.le_of_ble_eq_true rfl) rfl rfl rfl hl.1 rfl (Nat.le_of_ble_eq_true rfl) dX8_planPhotos_26) (fun r26 σ26 H locs hq hH hS => ?_)
    obtain ⟨hr1, hF, hV⟩ := hq
    refine r_top hr1 ?_
    refine r_ifeqB (tgt := 42) hx hb dX8_planPhotos_29 (by decide) (fun c29 => ?_) (fun c29 => ?_)
    · have ha : bsF (σ 22) (cmC σ) R C L (R * C) = none := (by cases hq : bsF (σ 22) (cmC σ) R C L (R * C) with | none => rfl | some a => rw [hq] at c29; cases c29)
      refine lv_bipush (v := (-6)) hx hb dX8_planPhotos_42 (by decide) ?_
      exact r_iret CF hr hlk hH hS dX8_planPhotos_44 ⟨by simp [aPln, c7, eLN, ha], hF⟩
    · obtain ⟨a, ha⟩ := Option.isSome_iff_exists.mp c29
      refine lv_aload_n hx hb dX8_planPhotos_32 rfl (lv_at hl 0 rfl) ?_
      refine r_get CF hK hH 20 (Nat.le_of_ble_eq_true rfl) rfl rfl JX8 5 (by decide) K1 rfl dX8_planPhotos_33 ?_
      refine r_get CF hK hH 26 (Nat.le_of_ble_eq_true rfl) rfl rfl JX3 2 (by decide) K4 rfl dX8_planPhotos_36 ?_
      refine r_top (show (σ26 26 2 : Int32) = nI a.1 from (hV a ha).2.2) ?_
      refine lv_goto (tgt := 44) hx hb dX8_planPhotos_39 (by decide) ?_
      exact r_iret CF hr hlk hH hS dX8_planPhotos_44 ⟨by simp [aPln, c7, eLN, ha], hF⟩
  · refine lv_bipush (v := (-4)) hx hb dX8_planPhotos_10 (by decide) ?_
    exact r_iret CF hr hlk hH hS dX8_planPhotos_12 ⟨by simp [aPln, c7], fun _ _ _ _ => rfl⟩

set_option maxRecDepth 100000 in
set_option maxHeartbeats 4000000 in
theorem c_X8_planRowSpacing (l : Launch) (G : Gm) (σ : Sg) (R C n : Nat) (sq : Nat → S4) (hA : CA σ R C n sq) (x : Int32) : Met l yX8_planRowSpacing wsX8_planRowSpacing (rmO 6 165) (PP G [.ref (G.2.1 20), .int x] σ) (QI G (fun v σ' => v = aPln R C (σ 22) (cmC σ) x (fun a => a.2.1) ∧ PFr σ σ')) 0 0 (fr G) := by
  refine r_start (cc := cX8_planRowSpacing) (maxL := 2) (ret := (some .int)) (by decide) rfl (Nat.le_of_ble_eq_true rfl) ?_
  intro pz ez sz mz below meth cz ls CF hr hlk hK hH hS hl
  have CF : CallFix pz mz cz cX8_planRowSpacing 2 sz (List.toArray [.ref (G.2.1 20), .int x]) wsX8_planRowSpacing RX8 := CF
  have hx := CF.1
  have hb := CF.2.1
  have hown := CF.2.2.2.1
  have hts := CF.2.2.2.2
  have hl : lv_has ls 2 [(0, .ref (G.2.1 20)), (1, .int x)] := hl
  have K1 := hts _ (List.mem_of_getElem? (i := 1) rfl)
  have K2 := hts _ (List.mem_of_getElem? (i := 2) rfl)
  have K3 := hts _ (List.mem_of_getElem? (i := 3) rfl)
  have K4 := hts _ (List.mem_of_getElem? (i := 4) rfl)
  have JX3 : ∀ w ∈ wsX30, w ∈ wsX8_planRowSpacing := in_r _ [114, 115, 116, 117] (by decide +kernel)
  have JX8 : ∀ w ∈ wsX80, w ∈ wsX8_planRowSpacing := in_r _ [107, 108, 109, 110, 111, 112, 113] (by decide +kernel)
  obtain ⟨hR, hC, hR3, hR10, hC4, hC16, hh, hL⟩ := hA
  have hn : σ (16 + 0) 0 = nI n := hL.1
  have hn8 := hL.2.1
  refine lv_iload_n hx hb dX8_planRowSpacing_0 rfl (lv_at hl 1 rfl) ?_
  refine lv_iconst (v := 1) hx hb dX8_planRowSpacing_1 (by decide) ?_
  refine lv_bipush (v := 9) hx hb dX8_planRowSpacing_2 (by decide) ?_
  refine r_cR hS (r_runS (n := 3) (As := [.int x, .int (1 : Int32), .int (9 : Int32)]) (rest := []) CF hK hH (c_X8_isWithin l G σ x (1 : Int32) (9 : Int32)) gX8_planRowSpacing_X8_isWithin rfl rfl rfl (by decide +kernel) ⟨⟨Nat.le_of_ble_eq_true rfl, Nat.le_of_ble_eq_true rfl⟩, Nat.le_of_ble_eq_true rfl, Nat.le_of_ble_eq_true rfl⟩ rfl hl.1 rfl (Nat.le_of_ble_eq_true rfl) dX8_planRowSpacing_4) (fun H locs hH hS => ?_)
  refine r_ifneB (tgt := 13) hx hb dX8_planRowSpacing_7 (by decide) (fun c7 => ?_) (fun c7 => ?_)
  · obtain ⟨L, hL1, hL9, eL, eLN⟩ := isW_of (a := 1) (b := 9) c7 (by omega) (by omega)
    refine lv_aload_n hx hb dX8_planRowSpacing_13 rfl (lv_at hl 0 rfl) ?_
    refine r_get CF hK hH 20 (Nat.le_of_ble_eq_true rfl) rfl rfl JX8 5 (by decide) K1 rfl dX8_planRowSpacing_14 ?_
    refine lv_aload_n hx hb dX8_planRowSpacing_17 rfl (lv_at hl 0 rfl) ?_
    refine r_get CF hK hH 20 (Nat.le_of_ble_eq_true rfl) rfl rfl JX8 0 (by decide) K2 rfl dX8_planRowSpacing_18 ?_
    refine lv_aload_n hx hb dX8_planRowSpacing_21 rfl (lv_at hl 0 rfl) ?_
    refine r_get CF hK hH 20 (Nat.le_of_ble_eq_true rfl) rfl rfl JX8 1 (by decide) K3 rfl dX8_planRowSpacing_22 ?_
    refine lv_iload_n hx hb dX8_planRowSpacing_25 rfl (lv_at hl 1 rfl) ?_
    refine r_top (show (x : Int32) = nI L from eL) ?_
    refine r_calli hS (r_runV (n := 3) (As := [.ref (G.2.1 21), .ref (G.2.1 23), .int (nI L)]) (rest := []) CF hK hH (c_X3_search l G σ R C hR hC hR10 hC16 hR3 hC4 hh L (by omega)) gX8_planRowSpacing_X3_search rfl rfl rfl rfl (by decide +kernel) ⟨⟨Nat.le_of_ble_eq_true rfl, Nat.le_of_ble_eq_true rfl⟩, Nat.le_of_ble_eq_true rfl, Nat.le_of_ble_eq_true rfl⟩ 26 rfl (Nat.le_of_ble_eq_true rfl) rfl rfl rfl hl.1 rfl (Nat.le_of_ble_eq_true rfl) dX8_planRowSpacing_26) (fun r26 σ26 H locs hq hH hS => ?_)
    obtain ⟨hr1, hF, hV⟩ := hq
    refine r_top hr1 ?_
    refine r_ifeqB (tgt := 42) hx hb dX8_planRowSpacing_29 (by decide) (fun c29 => ?_) (fun c29 => ?_)
    · have ha : bsF (σ 22) (cmC σ) R C L (R * C) = none := (by cases hq : bsF (σ 22) (cmC σ) R C L (R * C) with | none => rfl | some a => rw [hq] at c29; cases c29)
      refine lv_bipush (v := (-6)) hx hb dX8_planRowSpacing_42 (by decide) ?_
      exact r_iret CF hr hlk hH hS dX8_planRowSpacing_44 ⟨by simp [aPln, c7, eLN, ha], hF⟩
    · obtain ⟨a, ha⟩ := Option.isSome_iff_exists.mp c29
      refine lv_aload_n hx hb dX8_planRowSpacing_32 rfl (lv_at hl 0 rfl) ?_
      refine r_get CF hK hH 20 (Nat.le_of_ble_eq_true rfl) rfl rfl JX8 5 (by decide) K1 rfl dX8_planRowSpacing_33 ?_
      refine r_get CF hK hH 26 (Nat.le_of_ble_eq_true rfl) rfl rfl JX3 0 (by decide) K4 rfl dX8_planRowSpacing_36 ?_
      refine r_top (show (σ26 26 0 : Int32) = nI a.2.1 from (hV a ha).1) ?_
      refine lv_goto (tgt := 44) hx hb dX8_planRowSpacing_39 (by decide) ?_
      exact r_iret CF hr hlk hH hS dX8_planRowSpacing_44 ⟨by simp [aPln, c7, eLN, ha], hF⟩
  · refine lv_bipush (v := (-4)) hx hb dX8_planRowSpacing_10 (by decide) ?_
    exact r_iret CF hr hlk hH hS dX8_planRowSpacing_12 ⟨by simp [aPln, c7], fun _ _ _ _ => rfl⟩

set_option maxRecDepth 100000 in
set_option maxHeartbeats 4000000 in
theorem c_X8_planPhotoSpacing (l : Launch) (G : Gm) (σ : Sg) (R C n : Nat) (sq : Nat → S4) (hA : CA σ R C n sq) (x : Int32) : Met l yX8_planPhotoSpacing wsX8_planPhotoSpacing (rmO 6 165) (PP G [.ref (G.2.1 20), .int x] σ) (QI G (fun v σ' => v = aPln R C (σ 22) (cmC σ) x (fun a => a.2.2) ∧ PFr σ σ')) 0 0 (fr G) := by
  refine r_start (cc := cX8_planPhotoSpacing) (maxL := 2) (ret := (some .int)) (by decide) rfl (Nat.le_of_ble_eq_true rfl) ?_
  intro pz ez sz mz below meth cz ls CF hr hlk hK hH hS hl
  have CF : CallFix pz mz cz cX8_planPhotoSpacing 2 sz (List.toArray [.ref (G.2.1 20), .int x]) wsX8_planPhotoSpacing RX8 := CF
  have hx := CF.1
  have hb := CF.2.1
  have hown := CF.2.2.2.1
  have hts := CF.2.2.2.2
  have hl : lv_has ls 2 [(0, .ref (G.2.1 20)), (1, .int x)] := hl
  have K1 := hts _ (List.mem_of_getElem? (i := 1) rfl)
  have K2 := hts _ (List.mem_of_getElem? (i := 2) rfl)
  have K3 := hts _ (List.mem_of_getElem? (i := 3) rfl)
  have K4 := hts _ (List.mem_of_getElem? (i := 4) rfl)
  have JX3 : ∀ w ∈ wsX30, w ∈ wsX8_planPhotoSpacing := in_r _ [114, 115, 116, 117] (by decide +kernel)
  have JX8 : ∀ w ∈ wsX80, w ∈ wsX8_planPhotoSpacing := in_r _ [107, 108, 109, 110, 111, 112, 113] (by decide +kernel)
  obtain ⟨hR, hC, hR3, hR10, hC4, hC16, hh, hL⟩ := hA
  have hn : σ (16 + 0) 0 = nI n := hL.1
  have hn8 := hL.2.1
  refine lv_iload_n hx hb dX8_planPhotoSpacing_0 rfl (lv_at hl 1 rfl) ?_
  refine lv_iconst (v := 1) hx hb dX8_planPhotoSpacing_1 (by decide) ?_
  refine lv_bipush (v := 9) hx hb dX8_planPhotoSpacing_2 (by decide) ?_
  refine r_cR hS (r_runS (n := 3) (As := [.int x, .int (1 : Int32), .int (9 : Int32)]) (rest := []) CF hK hH (c_X8_isWithin l G σ x (1 : Int32) (9 : Int32)) gX8_planPhotoSpacing_X8_isWithin rfl rfl rfl (by decide +kernel) ⟨⟨Nat.le_of_ble_eq_true rfl, Nat.le_of_ble_eq_true rfl⟩, Nat.le_of_ble_eq_true rfl, Nat.le_of_ble_eq_true rfl⟩ rfl hl.1 rfl (Nat.le_of_ble_eq_true rfl) dX8_planPhotoSpacing_4) (fun H locs hH hS => ?_)
  refine r_ifneB (tgt := 13) hx hb dX8_planPhotoSpacing_7 (by decide) (fun c7 => ?_) (fun c7 => ?_)
  · obtain ⟨L, hL1, hL9, eL, eLN⟩ := isW_of (a := 1) (b := 9) c7 (by omega) (by omega)
    refine lv_aload_n hx hb dX8_planPhotoSpacing_13 rfl (lv_at hl 0 rfl) ?_
    refine r_get CF hK hH 20 (Nat.le_of_ble_eq_true rfl) rfl rfl JX8 5 (by decide) K1 rfl dX8_planPhotoSpacing_14 ?_
    refine lv_aload_n hx hb dX8_planPhotoSpacing_17 rfl (lv_at hl 0 rfl) ?_
    refine r_get CF hK hH 20 (Nat.le_of_ble_eq_true rfl) rfl rfl JX8 0 (by decide) K2 rfl dX8_planPhotoSpacing_18 ?_
    refine lv_aload_n hx hb dX8_planPhotoSpacing_21 rfl (lv_at hl 0 rfl) ?_
    refine r_get CF hK hH 20 (Nat.le_of_ble_eq_true rfl) rfl rfl JX8 1 (by decide) K3 rfl dX8_planPhotoSpacing_22 ?_
    refine lv_iload_n hx hb dX8_planPhotoSpacing_25 rfl (lv_at hl 1 rfl) ?_
    refine r_top (show (x : Int32) = nI L from eL) ?_
    refine r_calli hS (r_runV (n := 3) (As := [.ref (G.2.1 21), .ref (G.2.1 23), .int (nI L)]) (rest := []) CF hK hH (c_X3_search l G σ R C hR hC hR10 hC16 hR3 hC4 hh L (by omega)) gX8_planPhotoSpacing_X3_search rfl rfl rfl rfl (by decide +kernel) ⟨⟨Nat.le_of_ble_eq_true rfl, Nat.le_of_ble_eq_true rfl⟩, Nat.le_of_ble_eq_true rfl, Nat.le_of_ble_eq_true rfl⟩ 26 rfl (Nat.le_of_ble_eq_true rfl) rfl rfl rfl hl.1 rfl (Nat.le_of_ble_eq_true rfl) dX8_planPhotoSpacing_26) (fun r26 σ26 H locs hq hH hS => ?_)
    obtain ⟨hr1, hF, hV⟩ := hq
    refine r_top hr1 ?_
    refine r_ifeqB (tgt := 42) hx hb dX8_planPhotoSpacing_29 (by decide) (fun c29 => ?_) (fun c29 => ?_)
    · have ha : bsF (σ 22) (cmC σ) R C L (R * C) = none := (by cases hq : bsF (σ 22) (cmC σ) R C L (R * C) with | none => rfl | some a => rw [hq] at c29; cases c29)
      refine lv_bipush (v := (-6)) hx hb dX8_planPhotoSpacing_42 (by decide) ?_
      exact r_iret CF hr hlk hH hS dX8_planPhotoSpacing_44 ⟨by simp [aPln, c7, eLN, ha], hF⟩
    · obtain ⟨a, ha⟩ := Option.isSome_iff_exists.mp c29
      refine lv_aload_n hx hb dX8_planPhotoSpacing_32 rfl (lv_at hl 0 rfl) ?_
      refine r_get CF hK hH 20 (Nat.le_of_ble_eq_true rfl) rfl rfl JX8 5 (by decide) K1 rfl dX8_planPhotoSpacing_33 ?_
      refine r_get CF hK hH 26 (Nat.le_of_ble_eq_true rfl) rfl rfl JX3 1 (by decide) K4 rfl dX8_planPhotoSpacing_36 ?_
      refine r_top (show (σ26 26 1 : Int32) = nI a.2.2 from (hV a ha).2.1) ?_
      refine lv_goto (tgt := 44) hx hb dX8_planPhotoSpacing_39 (by decide) ?_
      exact r_iret CF hr hlk hH hS dX8_planPhotoSpacing_44 ⟨by simp [aPln, c7, eLN, ha], hF⟩
  · refine lv_bipush (v := (-4)) hx hb dX8_planPhotoSpacing_10 (by decide) ?_
    exact r_iret CF hr hlk hH hS dX8_planPhotoSpacing_12 ⟨by simp [aPln, c7], fun _ _ _ _ => rfl⟩

set_option maxRecDepth 100000 in
set_option maxHeartbeats 4000000 in
theorem c_X8_applyPlan (l : Launch) (G : Gm) (σ : Sg) (R C n : Nat) (sq : Nat → S4) (hA : CA σ R C n sq) (x : Int32) : Met l yX8_applyPlan wsX8_applyPlan (rmO 6 165) (PP G [.ref (G.2.1 20), .int x] σ) (QI G (fun v σ' => v = aPln R C (σ 22) (cmC σ) x (fun a => ndF R a.2.1) ∧ ∃ σ1, PFr σ σ1 ∧ (∀ a, isW x 1 9 = true → bsF (σ 22) (cmC σ) R C (NN x) (R * C) = some a → σ' = layS σ1 0 a.2.1 a.2.2 C (ndF R a.2.1)) ∧ (isW x 1 9 = false ∨ bsF (σ 22) (cmC σ) R C (NN x) (R * C) = none → σ' = σ1))) 0 0 (fr G) := by
  refine r_start (cc := cX8_applyPlan) (maxL := 2) (ret := (some .int)) (by decide) rfl (Nat.le_of_ble_eq_true rfl) ?_
  intro pz ez sz mz below meth cz ls CF hr hlk hK hH hS hl
  have CF : CallFix pz mz cz cX8_applyPlan 2 sz (List.toArray [.ref (G.2.1 20), .int x]) wsX8_applyPlan RX8 := CF
  have hx := CF.1
  have hb := CF.2.1
  have hown := CF.2.2.2.1
  have hts := CF.2.2.2.2
  have hl : lv_has ls 2 [(0, .ref (G.2.1 20)), (1, .int x)] := hl
  have K1 := hts _ (List.mem_of_getElem? (i := 1) rfl)
  have K2 := hts _ (List.mem_of_getElem? (i := 2) rfl)
  have K3 := hts _ (List.mem_of_getElem? (i := 3) rfl)
  have K4 := hts _ (List.mem_of_getElem? (i := 4) rfl)
  have K5 := hts _ (List.mem_of_getElem? (i := 5) rfl)
  have K6 := hts _ (List.mem_of_getElem? (i := 6) rfl)
  have K7 := hts _ (List.mem_of_getElem? (i := 7) rfl)
  have JX3 : ∀ w ∈ wsX30, w ∈ wsX8_applyPlan := in_r _ [118, 119, 120, 121] (by decide +kernel)
  have JX6 : ∀ w ∈ wsX60, w ∈ wsX8_applyPlan := in_r _ [122, 123] (by decide +kernel)
  have JX8 : ∀ w ∈ wsX80, w ∈ wsX8_applyPlan := in_r _ [111, 112, 113, 114, 115, 116, 117] (by decide +kernel)
  obtain ⟨hR, hC, hR3, hR10, hC4, hC16, hh, hL⟩ := hA
  have hn : σ (16 + 0) 0 = nI n := hL.1
  have hn8 := hL.2.1
  refine lv_iload_n hx hb dX8_applyPlan_0 rfl (lv_at hl 1 rfl) ?_
  refine lv_iconst (v := 1) hx hb dX8_applyPlan_1 (by decide) ?_
  refine lv_bipush (v := 9) hx hb dX8_applyPlan_2 (by decide) ?_
  refine r_cR hS (r_runS (n := 3) (As := [.int x, .int (1 : Int32), .int (9 : Int32)]) (rest := []) CF hK hH (c_X8_isWithin l G σ x (1 : Int32) (9 : Int32)) gX8_applyPlan_X8_isWithin rfl rfl rfl (by decide +kernel) ⟨⟨Nat.le_of_ble_eq_true rfl, Nat.le_of_ble_eq_true rfl⟩, Nat.le_of_ble_eq_true rfl, Nat.le_of_ble_eq_true rfl⟩ rfl hl.1 rfl (Nat.le_of_ble_eq_true rfl) dX8_applyPlan_4) (fun H locs hH hS => ?_)
  refine r_ifneB (tgt := 13) hx hb dX8_applyPlan_7 (by decide) (fun c7 => ?_) (fun c7 => ?_)
  · obtain ⟨L, hL1, hL9, eL, eLN⟩ := isW_of (a := 1) (b := 9) c7 (by omega) (by omega)
    refine lv_aload_n hx hb dX8_applyPlan_13 rfl (lv_at hl 0 rfl) ?_
    refine r_get CF hK hH 20 (Nat.le_of_ble_eq_true rfl) rfl rfl JX8 5 (by decide) K1 rfl dX8_applyPlan_14 ?_
    refine lv_aload_n hx hb dX8_applyPlan_17 rfl (lv_at hl 0 rfl) ?_
    refine r_get CF hK hH 20 (Nat.le_of_ble_eq_true rfl) rfl rfl JX8 0 (by decide) K2 rfl dX8_applyPlan_18 ?_
    refine lv_aload_n hx hb dX8_applyPlan_21 rfl (lv_at hl 0 rfl) ?_
    refine r_get CF hK hH 20 (Nat.le_of_ble_eq_true rfl) rfl rfl JX8 1 (by decide) K3 rfl dX8_applyPlan_22 ?_
    refine lv_iload_n hx hb dX8_applyPlan_25 rfl (lv_at hl 1 rfl) ?_
    refine r_top (show (x : Int32) = nI L from eL) ?_
    refine r_calli hS (r_runV (n := 3) (As := [.ref (G.2.1 21), .ref (G.2.1 23), .int (nI L)]) (rest := []) CF hK hH (c_X3_search l G σ R C hR hC hR10 hC16 hR3 hC4 hh L (by omega)) gX8_applyPlan_X3_search rfl rfl rfl rfl (by decide +kernel) ⟨⟨Nat.le_of_ble_eq_true rfl, Nat.le_of_ble_eq_true rfl⟩, Nat.le_of_ble_eq_true rfl, Nat.le_of_ble_eq_true rfl⟩ 26 rfl (Nat.le_of_ble_eq_true rfl) rfl rfl rfl hl.1 rfl (Nat.le_of_ble_eq_true rfl) dX8_applyPlan_26) (fun r26 σ26 H locs hq hH hS => ?_)
    obtain ⟨hr1, hF, hV⟩ := hq
    refine r_top hr1 ?_
    refine r_ifneB (tgt := 35) hx hb dX8_applyPlan_29 (by decide) (fun c29 => ?_) (fun c29 => ?_)
    · obtain ⟨a, ha⟩ := Option.isSome_iff_exists.mp c29
      obtain ⟨b1, b2, b3, b4⟩ := bs_le hR10 hC16 (by omega) _ _ ha
      obtain ⟨b5, b6⟩ := bs_ok (by omega) _ (Nat.le_refl _) _ ha
      refine lv_aload_n hx hb dX8_applyPlan_35 rfl (lv_at hl 0 rfl) ?_
      refine r_get CF hK hH 20 (Nat.le_of_ble_eq_true rfl) rfl rfl JX8 3 (by decide) K4 rfl dX8_applyPlan_36 ?_
      refine lv_aload_n hx hb dX8_applyPlan_39 rfl (lv_at hl 0 rfl) ?_
      refine r_get CF hK hH 20 (Nat.le_of_ble_eq_true rfl) rfl rfl JX8 0 (by decide) K2 rfl dX8_applyPlan_40 ?_
      refine lv_aload_n hx hb dX8_applyPlan_43 rfl (lv_at hl 0 rfl) ?_
      refine r_get CF hK hH 20 (Nat.le_of_ble_eq_true rfl) rfl rfl JX8 5 (by decide) K1 rfl dX8_applyPlan_44 ?_
      refine r_get CF hK hH 26 (Nat.le_of_ble_eq_true rfl) rfl rfl JX3 0 (by decide) K5 rfl dX8_applyPlan_47 ?_
      refine r_top (show (σ26 26 0 : Int32) = nI a.2.1 from (hV a ha).1) ?_
      refine lv_aload_n hx hb dX8_applyPlan_50 rfl (lv_at hl 0 rfl) ?_
      refine r_get CF hK hH 20 (Nat.le_of_ble_eq_true rfl) rfl rfl JX8 5 (by decide) K1 rfl dX8_applyPlan_51 ?_
      refine r_get CF hK hH 26 (Nat.le_of_ble_eq_true rfl) rfl rfl JX3 1 (by decide) K6 rfl dX8_applyPlan_54 ?_
      refine r_top (show (σ26 26 1 : Int32) = nI a.2.2 from (hV a ha).2.1) ?_
      refine r_calli hS (r_runV (n := 3) (As := [.ref (G.2.1 21), .int (nI a.2.1), .int (nI a.2.2)]) (rest := []) CF hK hH (c_X6_layOut l G σ26 0 (by decide) a.2.1 a.2.2 R C (by rw [hF 21 (by omega) (by omega) (by omega)]; exact hR) (by rw [hF 21 (by omega) (by omega) (by omega)]; exact hC) hR10 hC16 (by omega) (by omega) (by omega)) gX8_applyPlan_X6_layOut rfl rfl rfl rfl (by decide +kernel) ⟨⟨Nat.le_of_ble_eq_true rfl, Nat.le_of_ble_eq_true rfl⟩, Nat.le_of_ble_eq_true rfl, Nat.le_of_ble_eq_true rfl⟩ (16 + 0) rfl (by omega) (we_l G (by decide) _) rfl rfl hl.1 rfl (Nat.le_of_ble_eq_true rfl) dX8_applyPlan_57) (fun r57 σ57 H locs hq hH hS => ?_)
      rw [if_neg b6] at hq
      obtain ⟨hr2, hσ2⟩ := hq
      rw [hσ2] at hH
      refine lv_pop hx hb dX8_applyPlan_60 rfl ?_
      refine lv_aload_n hx hb dX8_applyPlan_61 rfl (lv_at hl 0 rfl) ?_
      refine r_get CF hK hH 20 (Nat.le_of_ble_eq_true rfl) rfl rfl JX8 3 (by decide) K4 rfl dX8_applyPlan_62 ?_
      refine r_get CF hK hH (16 + 0) (by omega) (we_l G (by decide) _) rfl JX6 0 (by decide) K7 rfl dX8_applyPlan_65 ?_
      refine r_top (show ((layS σ26 0 a.2.1 a.2.2 C (ndF R a.2.1)) (16 + 0) 0 : Int32) = nI (ndF R a.2.1) from layS_c _ _ _ _ _ _) ?_
      exact r_iret CF hr hlk hH hS dX8_applyPlan_68 ⟨by simp [aPln, c7, eLN, ha], σ26, hF, (fun b _ h2 => by rw [eLN, ha] at h2; cases h2; rfl), (by rintro (h1 | h1); rw [c7] at h1; cases h1; rw [eLN, ha] at h1; cases h1)⟩
    · have ha : bsF (σ 22) (cmC σ) R C L (R * C) = none := (by cases hq : bsF (σ 22) (cmC σ) R C L (R * C) with | none => rfl | some a => rw [hq] at c29; cases c29)
      refine lv_bipush (v := (-6)) hx hb dX8_applyPlan_32 (by decide) ?_
      exact r_iret CF hr hlk hH hS dX8_applyPlan_34 ⟨by simp [aPln, c7, eLN, ha], σ26, hF, (fun b _ h2 => by rw [eLN, ha] at h2; cases h2), fun _ => rfl⟩
  · refine lv_bipush (v := (-4)) hx hb dX8_applyPlan_10 (by decide) ?_
    exact r_iret CF hr hlk hH hS dX8_applyPlan_12 ⟨by simp [aPln, c7], σ, fun _ _ _ _ => rfl, (fun a h1 => by rw [c7] at h1; cases h1), fun _ => rfl⟩
