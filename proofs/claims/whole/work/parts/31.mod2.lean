theorem mph_nI {σ : Sg} {i : Nat} {q : S4} (hv : MV σ i q) : (σ 33 i - σ 32 i) / σ 34 i + 1 = nI (phF q) := by
  obtain ⟨h0, h1, h2, h3, h4, h5, h6, h7, h8⟩ := hv
  rw [h1, h2, h3, pk_sub h5, pk_div (by omega) (by omega) (by omega)]
  exact nI_1 _

set_option maxRecDepth 100000 in
set_option maxHeartbeats 4000000 in
theorem c_X9_photosOf (l : Launch) (G : Gm) (σ : Sg) (n : Nat) (sq : Nat → S4) (hM : MS σ n sq) (i : Nat) (hi : i < n) : Met l yX9_photosOf wsX9_photosOf (rmO 0 0) (PP G [.ref (G.2.1 29), .int (nI i)] σ) (QI G (RV (nI (phF (sq i))) σ)) 0 0 (fr G) := by
  refine r_start (cc := cX9_photosOf) (maxL := 2) (ret := (some .int)) (by decide) rfl (Nat.le_of_ble_eq_true rfl) ?_
  intro pz ez sz mz below meth cz ls CF hr hlk hK hH hS hl
  have CF : CallFix pz mz cz cX9_photosOf 2 sz (List.toArray [.ref (G.2.1 29), .int (nI i)]) wsX9_photosOf RX9 := CF
  have hx := CF.1
  have hb := CF.2.1
  have hown := CF.2.2.2.1
  have hts := CF.2.2.2.2
  have hl : lv_has ls 2 [(0, .ref (G.2.1 29)), (1, .int (nI i))] := hl
  have K1 := hts _ (List.mem_of_getElem? (i := 1) rfl)
  have K2 := hts _ (List.mem_of_getElem? (i := 2) rfl)
  have K3 := hts _ (List.mem_of_getElem? (i := 3) rfl)
  have JX9 : ∀ w ∈ wsX90, w ∈ wsX9_photosOf := in_r _ [4, 5, 6, 7, 8, 9, 10, 11, 12, 13, 14, 15, 16, 17, 18, 19, 20, 21, 22, 23] (by decide +kernel)
  have hn := hM.1
  have hn8 := hM.2.1
  have hv := hM.2.2 i hi
  refine lv_aload_n hx hb dX9_photosOf_0 rfl (lv_at hl 0 rfl) ?_
  refine r_get CF hK hH 29 (Nat.le_of_ble_eq_true rfl) rfl rfl JX9 13 (by decide) K1 rfl dX9_photosOf_1 ?_
  refine lv_iload_n hx hb dX9_photosOf_4 rfl (lv_at hl 1 rfl) ?_
  refine r_iald CF hK hH 33 (Nat.le_of_ble_eq_true rfl) rfl (Nat.le_of_ble_eq_true rfl) i rfl (by omega) dX9_photosOf_5 ?_
  refine lv_aload_n hx hb dX9_photosOf_6 rfl (lv_at hl 0 rfl) ?_
  refine r_get CF hK hH 29 (Nat.le_of_ble_eq_true rfl) rfl rfl JX9 12 (by decide) K2 rfl dX9_photosOf_7 ?_
  refine lv_iload_n hx hb dX9_photosOf_10 rfl (lv_at hl 1 rfl) ?_
  refine r_iald CF hK hH 32 (Nat.le_of_ble_eq_true rfl) rfl (Nat.le_of_ble_eq_true rfl) i rfl (by omega) dX9_photosOf_11 ?_
  refine lv_isub hx hb dX9_photosOf_12 ?_
  refine lv_aload_n hx hb dX9_photosOf_13 rfl (lv_at hl 0 rfl) ?_
  refine r_get CF hK hH 29 (Nat.le_of_ble_eq_true rfl) rfl rfl JX9 14 (by decide) K3 rfl dX9_photosOf_14 ?_
  refine lv_iload_n hx hb dX9_photosOf_17 rfl (lv_at hl 1 rfl) ?_
  refine r_iald CF hK hH 34 (Nat.le_of_ble_eq_true rfl) rfl (Nat.le_of_ble_eq_true rfl) i rfl (by omega) dX9_photosOf_18 ?_
  refine lv_idiv hx hb dX9_photosOf_19 (by rw [hv.2.2.2.1]; exact nI_ne0 (by have := hv.2.2.2.2.2.2.2.1; omega) (by have := hv.2.2.2.2.2.2.2.2; omega)) ?_
  refine lv_iconst (v := 1) hx hb dX9_photosOf_20 (by decide) ?_
  refine lv_iadd hx hb dX9_photosOf_21 ?_
  exact r_iret CF hr hlk hH hS dX9_photosOf_22 ⟨mph_nI hv, rfl⟩

set_option maxRecDepth 100000 in
set_option maxHeartbeats 4000000 in
theorem c_X9_columnOf (l : Launch) (G : Gm) (σ : Sg) (n : Nat) (sq : Nat → S4) (hM : MS σ n sq) (i : Nat) (hi : i < n) (p : Nat) : Met l yX9_columnOf wsX9_columnOf (rmO 0 0) (PP G [.ref (G.2.1 29), .int (nI i), .int (nI p)] σ) (QI G (RV (nI ((sq i).2.1 + p * (sq i).2.2.2)) σ)) 0 0 (fr G) := by
  refine r_start (cc := cX9_columnOf) (maxL := 3) (ret := (some .int)) (by decide) rfl (Nat.le_of_ble_eq_true rfl) ?_
  intro pz ez sz mz below meth cz ls CF hr hlk hK hH hS hl
  have CF : CallFix pz mz cz cX9_columnOf 3 sz (List.toArray [.ref (G.2.1 29), .int (nI i), .int (nI p)]) wsX9_columnOf RX9 := CF
  have hx := CF.1
  have hb := CF.2.1
  have hown := CF.2.2.2.1
  have hts := CF.2.2.2.2
  have hl : lv_has ls 3 [(0, .ref (G.2.1 29)), (1, .int (nI i)), (2, .int (nI p))] := hl
  have K1 := hts _ (List.mem_of_getElem? (i := 1) rfl)
  have K2 := hts _ (List.mem_of_getElem? (i := 2) rfl)
  have JX9 : ∀ w ∈ wsX90, w ∈ wsX9_columnOf := in_r _ [3, 4, 5, 6, 7, 8, 9, 10, 11, 12, 13, 14, 15, 16, 17, 18, 19, 20, 21, 22] (by decide +kernel)
  have hn := hM.1
  have hn8 := hM.2.1
  have hv := hM.2.2 i hi
  refine lv_aload_n hx hb dX9_columnOf_0 rfl (lv_at hl 0 rfl) ?_
  refine r_get CF hK hH 29 (Nat.le_of_ble_eq_true rfl) rfl rfl JX9 12 (by decide) K1 rfl dX9_columnOf_1 ?_
  refine lv_iload_n hx hb dX9_columnOf_4 rfl (lv_at hl 1 rfl) ?_
  refine r_iald CF hK hH 32 (Nat.le_of_ble_eq_true rfl) rfl (Nat.le_of_ble_eq_true rfl) i rfl (by omega) dX9_columnOf_5 ?_
  refine lv_iload_n hx hb dX9_columnOf_6 rfl (lv_at hl 2 rfl) ?_
  refine lv_aload_n hx hb dX9_columnOf_7 rfl (lv_at hl 0 rfl) ?_
  refine r_get CF hK hH 29 (Nat.le_of_ble_eq_true rfl) rfl rfl JX9 14 (by decide) K2 rfl dX9_columnOf_8 ?_
  refine lv_iload_n hx hb dX9_columnOf_11 rfl (lv_at hl 1 rfl) ?_
  refine r_iald CF hK hH 34 (Nat.le_of_ble_eq_true rfl) rfl (Nat.le_of_ble_eq_true rfl) i rfl (by omega) dX9_columnOf_12 ?_
  refine lv_imul hx hb dX9_columnOf_13 ?_
  refine lv_iadd hx hb dX9_columnOf_14 ?_
  exact r_iret CF hr hlk hH hS dX9_columnOf_15 ⟨by rw [hv.2.1, hv.2.2.2.1, pk_mul, nI_add], rfl⟩

def cpF (n : Nat) (sq : Nat → S4) (x p : Int32) : Int32 := if !inB x n then -2 else if inB p (phF (sq (NN x))) then 0 else -3
theorem cp_ok {n : Nat} {sq : Nat → S4} {x p : Int32} (hn : n ≤ 8) (hq : ∀ i, i < n → okS (sq i)) (h : 0 ≤ cpF n sq x p) : ∃ i k : Nat, i < n ∧ k < phF (sq i) ∧ x = nI i ∧ p = nI k ∧ NN x = i ∧ NN p = k ∧ inB x n = true ∧ inB p (phF (sq i)) = true ∧ k < 16 := by
  unfold cpF at h
  cases h1 : inB x n with
  | false => rw [h1] at h; exact absurd (show (0 : Int32) ≤ -2 from h) (by decide)
  | true =>
    obtain ⟨i, hi, e⟩ := inB_of h1 (by omega)
    have hN := N_of e (by omega)
    rw [h1, hN] at h
    cases h2 : inB p (phF (sq i)) with
    | false => rw [h2] at h; exact absurd (show (0 : Int32) ≤ -3 from h) (by decide)
    | true =>
      have hp := phF_le (hq i hi)
      obtain ⟨k, hk, e2⟩ := inB_of h2 (by omega)
      exact ⟨i, k, hi, hk, e, e2, hN, N_of e2 (by omega), rfl, h2, by omega⟩
theorem cp_neg {n : Nat} {sq : Nat → S4} {x p : Int32} (h : ¬ 0 ≤ cpF n sq x p) (y : Int32) : cpF n sq x p = (if !inB x n then -2 else if !inB p (phF (sq (NN x))) then -3 else y) := by
  unfold cpF at *
  cases h1 : inB x n with
  | false => rfl
  | true =>
    rw [h1] at h
    cases h2 : inB p (phF (sq (NN x))) with
    | false => rfl
    | true => rw [h2] at h; exact absurd (by decide) h

set_option maxRecDepth 100000 in
set_option maxHeartbeats 4000000 in
theorem c_X9_checkPhoto (l : Launch) (G : Gm) (σ : Sg) (n : Nat) (sq : Nat → S4) (hM : MS σ n sq) (x p : Int32) : Met l yX9_checkPhoto wsX9_checkPhoto (rmO 2 43) (PP G [.ref (G.2.1 29), .int x, .int p] σ) (QI G (RV (cpF n sq x p) σ)) 0 0 (fr G) := by
  refine r_start (cc := cX9_checkPhoto) (maxL := 3) (ret := (some .int)) (by decide) rfl (Nat.le_of_ble_eq_true rfl) ?_
  intro pz ez sz mz below meth cz ls CF hr hlk hK hH hS hl
  have CF : CallFix pz mz cz cX9_checkPhoto 3 sz (List.toArray [.ref (G.2.1 29), .int x, .int p]) wsX9_checkPhoto RX9 := CF
  have hx := CF.1
  have hb := CF.2.1
  have hown := CF.2.2.2.1
  have hts := CF.2.2.2.2
  have hl : lv_has ls 3 [(0, .ref (G.2.1 29)), (1, .int x), (2, .int p)] := hl
  have hn := hM.1
  have hn8 := hM.2.1
  refine lv_aload_n hx hb dX9_checkPhoto_0 rfl (lv_at hl 0 rfl) ?_
  refine lv_iload_n hx hb dX9_checkPhoto_1 rfl (lv_at hl 1 rfl) ?_
  refine r_cR hS (r_runV (n := 1) (As := [.int x]) (rest := []) CF hK hH (c_X9_isStrip l G σ n hn hn8 x) gX9_checkPhoto_X9_isStrip rfl rfl rfl rfl (by decide +kernel) ⟨⟨Nat.le_of_ble_eq_true rfl, Nat.le_of_ble_eq_true rfl⟩, Nat.le_of_ble_eq_true rfl, Nat.le_of_ble_eq_true rfl⟩ 29 rfl (Nat.le_of_ble_eq_true rfl) rfl rfl rfl hl.1 rfl (Nat.le_of_ble_eq_true rfl) dX9_checkPhoto_2) (fun H locs hH hS => ?_)
  refine r_ifneB (tgt := 13) hx hb dX9_checkPhoto_5 (by decide) (fun c5 => ?_) (fun c5 => ?_)
  · obtain ⟨i, hi, ei⟩ := inB_of c5 (by omega)
    have eiN := N_of ei (by omega)
    have hph := phF_le (hM.2.2 i hi).2.2.2.2
    refine lv_iload_n hx hb dX9_checkPhoto_13 rfl (lv_at hl 2 rfl) ?_
    refine lv_iconst (v := 0) hx hb dX9_checkPhoto_14 (by decide) ?_
    refine lv_aload_n hx hb dX9_checkPhoto_15 rfl (lv_at hl 0 rfl) ?_
    refine lv_iload_n hx hb dX9_checkPhoto_16 rfl (lv_at hl 1 rfl) ?_
    refine r_top (show (x : Int32) = nI i from ei) ?_
    refine r_cR hS (r_runV (n := 1) (As := [.int (nI i)]) (rest := [.int (0 : Int32), .int p]) CF hK hH (c_X9_photosOf l G σ n sq hM i (by omega)) gX9_checkPhoto_X9_photosOf rfl rfl rfl rfl (by decide +kernel) ⟨⟨Nat.le_of_ble_eq_true rfl, Nat.le_of_ble_eq_true rfl⟩, Nat.le_of_ble_eq_true rfl, Nat.le_of_ble_eq_true rfl⟩ 29 rfl (Nat.le_of_ble_eq_true rfl) rfl rfl rfl hl.1 rfl (Nat.le_of_ble_eq_true rfl) dX9_checkPhoto_17) (fun H locs hH hS => ?_)
    refine lv_iconst (v := 1) hx hb dX9_checkPhoto_20 (by decide) ?_
    refine lv_isub hx hb dX9_checkPhoto_21 ?_
    refine r_cR hS (r_runS (n := 3) (As := [.int p, .int (0 : Int32), .int ((nI (phF (sq i))) - (1 : Int32))]) (rest := []) CF hK hH (c_X9_isBetween l G σ p (0 : Int32) ((nI (phF (sq i))) - (1 : Int32))) gX9_checkPhoto_X9_isBetween rfl rfl rfl (by decide +kernel) ⟨⟨Nat.le_of_ble_eq_true rfl, Nat.le_of_ble_eq_true rfl⟩, Nat.le_of_ble_eq_true rfl, Nat.le_of_ble_eq_true rfl⟩ rfl hl.1 rfl (Nat.le_of_ble_eq_true rfl) dX9_checkPhoto_22) (fun H locs hH hS => ?_)
    refine r_top (show (b2i (isW p (0 : Int32) ((nI (phF (sq i))) - (1 : Int32))) : Int32) = b2i (inB p (phF (sq i))) from (by rw [isW_inB _ (by omega)])) ?_
    refine r_ifeqB (tgt := 32) hx hb dX9_checkPhoto_25 (by decide) (fun c25 => ?_) (fun c25 => ?_)
    · refine lv_bipush (v := (-3)) hx hb dX9_checkPhoto_32 (by decide) ?_
      exact r_iret CF hr hlk hH hS dX9_checkPhoto_34 ⟨by simp [cpF, c5, c25, eiN], rfl⟩
    · refine lv_iconst (v := 0) hx hb dX9_checkPhoto_28 (by decide) ?_
      refine lv_goto (tgt := 34) hx hb dX9_checkPhoto_29 (by decide) ?_
      exact r_iret CF hr hlk hH hS dX9_checkPhoto_34 ⟨by simp [cpF, c5, c25, eiN], rfl⟩
  · refine lv_bipush (v := (-2)) hx hb dX9_checkPhoto_8 (by decide) ?_
    refine lv_goto (tgt := 34) hx hb dX9_checkPhoto_10 (by decide) ?_
    exact r_iret CF hr hlk hH hS dX9_checkPhoto_34 ⟨by simp [cpF, c5], rfl⟩

set_option maxRecDepth 100000 in
set_option maxHeartbeats 4000000 in
theorem c_X9_photoCount (l : Launch) (G : Gm) (σ : Sg) (n : Nat) (sq : Nat → S4) (hM : MS σ n sq) (x : Int32) : Met l yX9_photoCount wsX9_photoCount (rmO 2 43) (PP G [.ref (G.2.1 29), .int x] σ) (QI G (RV (aPhc n sq x) σ)) 0 0 (fr G) := by
  refine r_start (cc := cX9_photoCount) (maxL := 2) (ret := (some .int)) (by decide) rfl (Nat.le_of_ble_eq_true rfl) ?_
  intro pz ez sz mz below meth cz ls CF hr hlk hK hH hS hl
  have CF : CallFix pz mz cz cX9_photoCount 2 sz (List.toArray [.ref (G.2.1 29), .int x]) wsX9_photoCount RX9 := CF
  have hx := CF.1
  have hb := CF.2.1
  have hown := CF.2.2.2.1
  have hts := CF.2.2.2.2
  have hl : lv_has ls 2 [(0, .ref (G.2.1 29)), (1, .int x)] := hl
  have hn := hM.1
  have hn8 := hM.2.1
  refine lv_aload_n hx hb dX9_photoCount_0 rfl (lv_at hl 0 rfl) ?_
  refine lv_iload_n hx hb dX9_photoCount_1 rfl (lv_at hl 1 rfl) ?_
  refine r_cR hS (r_runV (n := 1) (As := [.int x]) (rest := []) CF hK hH (c_X9_isStrip l G σ n hn hn8 x) gX9_photoCount_X9_isStrip rfl rfl rfl rfl (by decide +kernel) ⟨⟨Nat.le_of_ble_eq_true rfl, Nat.le_of_ble_eq_true rfl⟩, Nat.le_of_ble_eq_true rfl, Nat.le_of_ble_eq_true rfl⟩ 29 rfl (Nat.le_of_ble_eq_true rfl) rfl rfl rfl hl.1 rfl (Nat.le_of_ble_eq_true rfl) dX9_photoCount_2) (fun H locs hH hS => ?_)
  refine r_ifeqB (tgt := 16) hx hb dX9_photoCount_5 (by decide) (fun c5 => ?_) (fun c5 => ?_)
  · refine lv_bipush (v := (-2)) hx hb dX9_photoCount_16 (by decide) ?_
    exact r_iret CF hr hlk hH hS dX9_photoCount_18 ⟨by simp [aPhc, c5], rfl⟩
  · obtain ⟨i, hi, ei⟩ := inB_of c5 (by omega)
    have eiN := N_of ei (by omega)
    refine lv_aload_n hx hb dX9_photoCount_8 rfl (lv_at hl 0 rfl) ?_
    refine lv_iload_n hx hb dX9_photoCount_9 rfl (lv_at hl 1 rfl) ?_
    refine r_top (show (x : Int32) = nI i from ei) ?_
    refine r_cR hS (r_runV (n := 1) (As := [.int (nI i)]) (rest := []) CF hK hH (c_X9_photosOf l G σ n sq hM i (by omega)) gX9_photoCount_X9_photosOf rfl rfl rfl rfl (by decide +kernel) ⟨⟨Nat.le_of_ble_eq_true rfl, Nat.le_of_ble_eq_true rfl⟩, Nat.le_of_ble_eq_true rfl, Nat.le_of_ble_eq_true rfl⟩ 29 rfl (Nat.le_of_ble_eq_true rfl) rfl rfl rfl hl.1 rfl (Nat.le_of_ble_eq_true rfl) dX9_photoCount_10) (fun H locs hH hS => ?_)
    refine lv_goto (tgt := 18) hx hb dX9_photoCount_13 (by decide) ?_
    exact r_iret CF hr hlk hH hS dX9_photoCount_18 ⟨by simp [aPhc, c5, eiN], rfl⟩

set_option maxRecDepth 100000 in
set_option maxHeartbeats 4000000 in
theorem c_X9_photoColumn (l : Launch) (G : Gm) (σ : Sg) (n : Nat) (sq : Nat → S4) (hM : MS σ n sq) (x p : Int32) : Met l yX9_photoColumn wsX9_photoColumn (rmO 3 65) (PP G [.ref (G.2.1 29), .int x, .int p] σ) (QI G (RV (aPhcol n sq x p) σ)) 0 0 (fr G) := by
  refine r_start (cc := cX9_photoColumn) (maxL := 4) (ret := (some .int)) (by decide) rfl (Nat.le_of_ble_eq_true rfl) ?_
  intro pz ez sz mz below meth cz ls CF hr hlk hK hH hS hl
  have CF : CallFix pz mz cz cX9_photoColumn 4 sz (List.toArray [.ref (G.2.1 29), .int x, .int p]) wsX9_photoColumn RX9 := CF
  have hx := CF.1
  have hb := CF.2.1
  have hown := CF.2.2.2.1
  have hts := CF.2.2.2.2
  have hl : lv_has ls 4 [(0, .ref (G.2.1 29)), (1, .int x), (2, .int p)] := hl
  have hn := hM.1
  have hn8 := hM.2.1
  refine lv_aload_n hx hb dX9_photoColumn_0 rfl (lv_at hl 0 rfl) ?_
  refine lv_iload_n hx hb dX9_photoColumn_1 rfl (lv_at hl 1 rfl) ?_
  refine lv_iload_n hx hb dX9_photoColumn_2 rfl (lv_at hl 2 rfl) ?_
  refine r_cR hS (r_runV (n := 2) (As := [.int x, .int p]) (rest := []) CF hK hH (c_X9_checkPhoto l G σ n sq hM x p) gX9_photoColumn_X9_checkPhoto rfl rfl rfl rfl (by decide +kernel) ⟨⟨Nat.le_of_ble_eq_true rfl, Nat.le_of_ble_eq_true rfl⟩, Nat.le_of_ble_eq_true rfl, Nat.le_of_ble_eq_true rfl⟩ 29 rfl (Nat.le_of_ble_eq_true rfl) rfl rfl rfl hl.1 rfl (Nat.le_of_ble_eq_true rfl) dX9_photoColumn_3) (fun H locs hH hS => ?_)
  refine lv_istore_n (lv' := [(3, .int (cpF n sq x p)), (0, .ref (G.2.1 29)), (1, .int x), (2, .int p)]) hx hb dX9_photoColumn_6 rfl hl (by decide) rfl (fun ls hl => ?_)
  refine lv_iload_n hx hb dX9_photoColumn_7 rfl (lv_at hl 0 rfl) ?_
  refine lv_if_ge (tgt := 15) hx hb dX9_photoColumn_8 (by decide) (fun c8 => ?_) (fun c8 => ?_)
  · obtain ⟨i, k, hi, hk, ei, ek, eiN, ekN, hin1, hin2, hk16⟩ := cp_ok hn8 (fun i hi => (hM.2.2 i hi).2.2.2.2) c8
    refine lv_aload_n hx hb dX9_photoColumn_15 rfl (lv_at hl 1 rfl) ?_
    refine lv_iload_n hx hb dX9_photoColumn_16 rfl (lv_at hl 2 rfl) ?_
    refine r_top (show (x : Int32) = nI i from ei) ?_
    refine lv_iload_n hx hb dX9_photoColumn_17 rfl (lv_at hl 3 rfl) ?_
    refine r_top (show (p : Int32) = nI k from ek) ?_
    refine r_cR hS (r_runV (n := 2) (As := [.int (nI i), .int (nI k)]) (rest := []) CF hK hH (c_X9_columnOf l G σ n sq hM i (by omega) k) gX9_photoColumn_X9_columnOf rfl rfl rfl rfl (by decide +kernel) ⟨⟨Nat.le_of_ble_eq_true rfl, Nat.le_of_ble_eq_true rfl⟩, Nat.le_of_ble_eq_true rfl, Nat.le_of_ble_eq_true rfl⟩ 29 rfl (Nat.le_of_ble_eq_true rfl) rfl rfl rfl hl.1 rfl (Nat.le_of_ble_eq_true rfl) dX9_photoColumn_18) (fun H locs hH hS => ?_)
    exact r_iret CF hr hlk hH hS dX9_photoColumn_21 ⟨by simp [aPhcol, hin1, eiN, ekN, hin2], rfl⟩
  · refine lv_iload_n hx hb dX9_photoColumn_11 rfl (lv_at hl 0 rfl) ?_
    refine lv_goto (tgt := 21) hx hb dX9_photoColumn_12 (by decide) ?_
    exact r_iret CF hr hlk hH hS dX9_photoColumn_21 ⟨(by unfold aPhcol; exact cp_neg c8 _), rfl⟩

set_option maxRecDepth 100000 in
set_option maxHeartbeats 4000000 in
theorem c_X9_nearest (l : Launch) (G : Gm) (σ : Sg) (v m : Int32) (hm : ¬ (2 : Int32) * m = 0) : Met l yX9_nearest wsX9_nearest (rmO 0 0) (PP G [.int v, .int m] σ) (QI G (RV (nrI ((2 : Int32) * v + m) ((2 : Int32) * m)) σ)) 0 0 (fr G) := by
  refine r_start (cc := cX9_nearest) (maxL := 5) (ret := (some .int)) (by decide) rfl (Nat.le_of_ble_eq_true rfl) ?_
  intro pz ez sz mz below meth cz ls CF hr hlk hK hH hS hl
  have CF : CallFix pz mz cz cX9_nearest 5 sz (List.toArray [.int v, .int m]) wsX9_nearest RX9 := CF
  have hx := CF.1
  have hb := CF.2.1
  have hown := CF.2.2.2.1
  have hts := CF.2.2.2.2
  have hl : lv_has ls 5 [(0, .int v), (1, .int m)] := hl
  refine lv_iconst (v := 2) hx hb dX9_nearest_0 (by decide) ?_
  refine lv_iload_n hx hb dX9_nearest_1 rfl (lv_at hl 0 rfl) ?_
  refine lv_imul hx hb dX9_nearest_2 ?_
  refine lv_iload_n hx hb dX9_nearest_3 rfl (lv_at hl 1 rfl) ?_
  refine lv_iadd hx hb dX9_nearest_4 ?_
  refine lv_istore_n (lv' := [(2, .int (((2 : Int32) * v) + m)), (0, .int v), (1, .int m)]) hx hb dX9_nearest_5 rfl hl (by decide) rfl (fun ls hl => ?_)
  refine lv_iconst (v := 2) hx hb dX9_nearest_6 (by decide) ?_
  refine lv_iload_n hx hb dX9_nearest_7 rfl (lv_at hl 2 rfl) ?_
  refine lv_imul hx hb dX9_nearest_8 ?_
  refine lv_istore_n (lv' := [(3, .int ((2 : Int32) * m)), (2, .int (((2 : Int32) * v) + m)), (0, .int v), (1, .int m)]) hx hb dX9_nearest_9 rfl hl (by decide) rfl (fun ls hl => ?_)
  refine lv_iload_n hx hb dX9_nearest_10 rfl (lv_at hl 1 rfl) ?_
  refine lv_iload_n hx hb dX9_nearest_11 rfl (lv_at hl 0 rfl) ?_
  refine lv_idiv hx hb dX9_nearest_12 hm ?_
  refine lv_istore (lv' := [(4, .int ((((2 : Int32) * v) + m) / ((2 : Int32) * m))), (3, .int ((2 : Int32) * m)), (2, .int (((2 : Int32) * v) + m)), (0, .int v), (1, .int m)]) hx hb dX9_nearest_13 hl (by decide) rfl (fun ls hl => ?_)
  refine lv_iload hx hb dX9_nearest_15 (lv_at hl 0 rfl) ?_
  refine lv_iload_n hx hb dX9_nearest_17 rfl (lv_at hl 1 rfl) ?_
  refine lv_imul hx hb dX9_nearest_18 ?_
  refine lv_iload_n hx hb dX9_nearest_19 rfl (lv_at hl 2 rfl) ?_
  refine lv_icmp_le (tgt := 30) hx hb dX9_nearest_20 (by decide) (fun c20 => ?_) (fun c20 => ?_)
  · refine lv_iload hx hb dX9_nearest_30 (lv_at hl 0 rfl) ?_
    exact r_iret CF hr hlk hH hS dX9_nearest_32 ⟨by unfold nrI; rw [if_neg (Int32.not_lt.mpr c20)], rfl⟩
  · refine lv_iload hx hb dX9_nearest_23 (lv_at hl 0 rfl) ?_
    refine lv_iconst (v := 1) hx hb dX9_nearest_25 (by decide) ?_
    refine lv_isub hx hb dX9_nearest_26 ?_
    refine lv_goto (tgt := 32) hx hb dX9_nearest_27 (by decide) ?_
    exact r_iret CF hr hlk hH hS dX9_nearest_32 ⟨by unfold nrI; rw [if_pos (Int32.not_le.mp c20)], rfl⟩

theorem nn_le {pr pc r c : Nat} (h1 : pr < 10) (h2 : pc < 16) (h3 : r < 10) (h4 : c < 16) (h : ab (nI r - nI pr) ≤ ab (nI c - nI pc)) : ab (nI c - nI pc) = nI (nnF pr pc r c) := by
  have q := steps_nI h1 h2 h3 h4
  rw [← q]
  by_cases hl : ab (nI r - nI pr) < ab (nI c - nI pc)
  · rw [if_pos hl]
  · rw [if_neg hl]; revert h hl; generalize ab (nI r - nI pr) = x; generalize ab (nI c - nI pc) = y; intro h hl; grind
theorem nn_gt {pr pc r c : Nat} (h1 : pr < 10) (h2 : pc < 16) (h3 : r < 10) (h4 : c < 16) (h : ¬ ab (nI r - nI pr) ≤ ab (nI c - nI pc)) : ab (nI r - nI pr) = nI (nnF pr pc r c) := by
  have q := steps_nI h1 h2 h3 h4
  rw [← q]
  by_cases hl : ab (nI r - nI pr) < ab (nI c - nI pc)
  · rw [if_pos hl]; revert h hl; generalize ab (nI r - nI pr) = x; generalize ab (nI c - nI pc) = y; intro h hl; grind
  · rw [if_neg hl]

set_option maxRecDepth 100000 in
set_option maxHeartbeats 4000000 in
theorem c_X9_isBlocked (l : Launch) (G : Gm) (σ : Sg) (pr pc r c : Nat) (h : Int32) (h1 : pr < 10) (h2 : pc < 16) (h3 : r < 10) (h4 : c < 16) : Met l yX9_isBlocked wsX9_isBlocked (rmO 1 24) (PP G [.ref (G.2.1 29), .int (nI pr), .int (nI pc), .int (nI r - nI pr), .int (nI c - nI pc), .int h] σ) (QI G (RV (b2i (!lfr (σ 30) (σ 29 2) h pr pc r c)) σ)) 0 0 (fr G) := by
  refine r_start (cc := cX9_isBlocked) (maxL := 10) (ret := (some .boolean)) (by decide) rfl (Nat.le_of_ble_eq_true rfl) ?_
  intro pz ez sz mz below meth cz ls CF hr hlk hK hH hS hl
  have CF : CallFix pz mz cz cX9_isBlocked 10 sz (List.toArray [.ref (G.2.1 29), .int (nI pr), .int (nI pc), .int (nI r - nI pr), .int (nI c - nI pc), .int h]) wsX9_isBlocked RX9 := CF
  have hx := CF.1
  have hb := CF.2.1
  have hown := CF.2.2.2.1
  have hts := CF.2.2.2.2
  have hl : lv_has ls 10 [(0, .ref (G.2.1 29)), (1, .int (nI pr)), (2, .int (nI pc)), (3, .int (nI r - nI pr)), (4, .int (nI c - nI pc)), (5, .int h)] := hl
  have K1 := hts _ (List.mem_of_getElem? (i := 1) rfl)
  have K2 := hts _ (List.mem_of_getElem? (i := 2) rfl)
  have JX9 : ∀ w ∈ wsX90, w ∈ wsX9_isBlocked := in_r _ [10, 11, 12, 13, 14, 15, 16, 17, 18, 19, 20, 21, 22, 23, 24, 25, 26, 27, 28, 29] (by decide +kernel)
  have hnn := nnF_le h1 h2 h3 h4
  have hn1 := nnF_1 pr pc r c
  have hn2 := nnF_2 pr pc r c
  have nl := nn_le h1 h2 h3 h4
  have ng := nn_gt h1 h2 h3 h4
  obtain ⟨N, hN⟩ : ∃ N, nnF pr pc r c = N := ⟨_, rfl⟩
  rw [hN] at hnn hn1 hn2 nl ng
  refine lv_iload_n hx hb dX9_isBlocked_0 rfl (lv_at hl 3 rfl) ?_
  refine r_cR hS (r_runS (n := 1) (As := [.int (nI r - nI pr)]) (rest := []) CF hK hH (c_X9_size l G σ (nI r - nI pr)) gX9_isBlocked_X9_size rfl rfl rfl (by decide +kernel) ⟨⟨Nat.le_of_ble_eq_true rfl, Nat.le_of_ble_eq_true rfl⟩, Nat.le_of_ble_eq_true rfl, Nat.le_of_ble_eq_true rfl⟩ rfl hl.1 rfl (Nat.le_of_ble_eq_true rfl) dX9_isBlocked_1) (fun H locs hH hS => ?_)
  refine lv_iload hx hb dX9_isBlocked_4 (lv_at hl 4 rfl) ?_
  refine r_cR hS (r_runS (n := 1) (As := [.int (nI c - nI pc)]) (rest := [.int (ab (nI r - nI pr))]) CF hK hH (c_X9_size l G σ (nI c - nI pc)) gX9_isBlocked_X9_size rfl rfl rfl (by decide +kernel) ⟨⟨Nat.le_of_ble_eq_true rfl, Nat.le_of_ble_eq_true rfl⟩, Nat.le_of_ble_eq_true rfl, Nat.le_of_ble_eq_true rfl⟩ rfl hl.1 rfl (Nat.le_of_ble_eq_true rfl) dX9_isBlocked_6) (fun H locs hH hS => ?_)
  refine lv_icmp_le (tgt := 19) hx hb dX9_isBlocked_9 (by decide) (fun c9 => ?_) (fun c9 => ?_)
  · refine lv_iload hx hb dX9_isBlocked_19 (lv_at hl 4 rfl) ?_
    refine r_cR hS (r_runS (n := 1) (As := [.int (nI c - nI pc)]) (rest := []) CF hK hH (c_X9_size l G σ (nI c - nI pc)) gX9_isBlocked_X9_size rfl rfl rfl (by decide +kernel) ⟨⟨Nat.le_of_ble_eq_true rfl, Nat.le_of_ble_eq_true rfl⟩, Nat.le_of_ble_eq_true rfl, Nat.le_of_ble_eq_true rfl⟩ rfl hl.1 rfl (Nat.le_of_ble_eq_true rfl) dX9_isBlocked_21) (fun H locs hH hS => ?_)
    refine r_top (show (ab (nI c - nI pc) : Int32) = nI N from (nl c9)) ?_
    refine lv_istore (lv' := [(6, .int (nI N)), (0, .ref (G.2.1 29)), (1, .int (nI pr)), (2, .int (nI pc)), (3, .int (nI r - nI pr)), (4, .int (nI c - nI pc)), (5, .int h)]) hx hb dX9_isBlocked_24 hl (by decide) rfl (fun ls hl => ?_)
    refine lv_iconst (v := 1) hx hb dX9_isBlocked_26 (by decide) ?_
    refine lv_istore (lv' := [(7, .int (1 : Int32)), (6, .int (nI N)), (0, .ref (G.2.1 29)), (1, .int (nI pr)), (2, .int (nI pc)), (3, .int (nI r - nI pr)), (4, .int (nI c - nI pc)), (5, .int h)]) hx hb dX9_isBlocked_27 hl (by decide) rfl (fun ls hl => ?_)
    have lp29 : ∀ (fu : Nat) (k : Nat) (H : Heap) (locs : List Loc) (ls : Array Slot), (17 ≤ k + fu) → (1 ≤ k) → (k ≤ 16) → (cnt (blk (σ 30) (σ 29 2) h pr pc r c N) k = 0) → Hp G σ H → va_S (fr G) sz.heap H locs → lv_has ls 10 [(0, .ref (G.2.1 29)), (1, .int (nI pr)), (2, .int (nI pc)), (3, .int (nI r - nI pr)), (4, .int (nI c - nI pc)), (5, .int h), (6, .int (nI N)), (7, .int (nI k))] → W pz l ez (rmO 1 24) sz mz (List.toArray [.ref (G.2.1 29), .int (nI pr), .int (nI pc), .int (nI r - nI pr), .int (nI c - nI pc), .int h]) below meth cz H locs 0 0 (MQ below (QI G (RV (b2i (!lfr (σ 30) (σ 29 2) h pr pc r c)) σ)) (List.toArray [.ref (G.2.1 29), .int (nI pr), .int (nI pc), .int (nI r - nI pr), .int (nI c - nI pc), .int h]) sz 0 0 (fr G)) (F0 mz 29 ls []) := by
      intro fu
      induction fu with
      | zero => intros; omega
      | succ fu ih29 =>
        intro k H locs ls hf hk1 hk16 hz hH hS hl
        refine lv_iload hx hb dX9_isBlocked_29 (lv_at hl 7 rfl) ?_
        refine lv_iload hx hb dX9_isBlocked_31 (lv_at hl 6 rfl) ?_
        refine lv_icmp_ge (tgt := 108) hx hb dX9_isBlocked_33 (by decide) (fun c33 => ?_) (fun c33 => ?_)
        · have c33 : N ≤ k := (nI_leI (a := N) (b := k) (by omega) (by omega)).mp c33
          refine lv_iconst (v := 0) hx hb dX9_isBlocked_108 (by decide) ?_
          exact r_zret CF hr hlk hH hS rfl dX9_isBlocked_109 ⟨by unfold lfr; rw [hN]; have e := cnt_mono (blk (σ 30) (σ 29 2) h pr pc r c N) c33; rw [hz] at e; simp [b2i]; omega, rfl⟩
        · have c33 : k < N := Nat.lt_of_not_le (fun zq => c33 ((nI_leI (a := N) (b := k) (by omega) (by omega)).mpr zq))
          have q1 := qz_lt hk1 c33 hn1 h1 h3
          have q2 := qz_lt hk1 c33 hn2 h2 h4
          refine lv_iload_n hx hb dX9_isBlocked_36 rfl (lv_at hl 1 rfl) ?_
          refine lv_iload hx hb dX9_isBlocked_37 (lv_at hl 7 rfl) ?_
          refine lv_iload_n hx hb dX9_isBlocked_39 rfl (lv_at hl 3 rfl) ?_
          refine lv_imul hx hb dX9_isBlocked_40 ?_
          refine lv_iload hx hb dX9_isBlocked_41 (lv_at hl 6 rfl) ?_
          refine r_cR hS (r_runS (n := 2) (As := [.int ((nI k) * (nI r - nI pr)), .int (nI N)]) (rest := [.int (nI pr)]) CF hK hH (c_X9_nearest l G σ ((nI k) * (nI r - nI pr)) (nI N) (twon (by omega) hnn)) gX9_isBlocked_X9_nearest rfl rfl rfl (by decide +kernel) ⟨⟨Nat.le_of_ble_eq_true rfl, Nat.le_of_ble_eq_true rfl⟩, Nat.le_of_ble_eq_true rfl, Nat.le_of_ble_eq_true rfl⟩ rfl hl.1 rfl (Nat.le_of_ble_eq_true rfl) dX9_isBlocked_43) (fun H locs hH hS => ?_)
          refine lv_iadd hx hb dX9_isBlocked_46 ?_
          refine r_top (show (((nI pr) + (nrI ((2 : Int32) * ((nI k) * (nI r - nI pr)) + (nI N)) ((2 : Int32) * (nI N)))) : Int32) = nI (qz k N pr r) from ln_m hk1 c33 (by omega) (by omega) (by omega) hn1) ?_
          refine lv_istore (lv' := [(8, .int (nI (qz k N pr r))), (0, .ref (G.2.1 29)), (1, .int (nI pr)), (2, .int (nI pc)), (3, .int (nI r - nI pr)), (4, .int (nI c - nI pc)), (5, .int h), (6, .int (nI N)), (7, .int (nI k))]) hx hb dX9_isBlocked_47 hl (by decide) rfl (fun ls hl => ?_)
          refine lv_iload_n hx hb dX9_isBlocked_49 rfl (lv_at hl 3 rfl) ?_
          refine lv_iload hx hb dX9_isBlocked_50 (lv_at hl 8 rfl) ?_
          refine lv_iload hx hb dX9_isBlocked_52 (lv_at hl 5 rfl) ?_
          refine lv_imul hx hb dX9_isBlocked_54 ?_
          refine lv_iload hx hb dX9_isBlocked_55 (lv_at hl 7 rfl) ?_
          refine r_cR hS (r_runS (n := 2) (As := [.int ((nI k) * (nI c - nI pc)), .int (nI N)]) (rest := [.int (nI pc)]) CF hK hH (c_X9_nearest l G σ ((nI k) * (nI c - nI pc)) (nI N) (twon (by omega) hnn)) gX9_isBlocked_X9_nearest rfl rfl rfl (by decide +kernel) ⟨⟨Nat.le_of_ble_eq_true rfl, Nat.le_of_ble_eq_true rfl⟩, Nat.le_of_ble_eq_true rfl, Nat.le_of_ble_eq_true rfl⟩ rfl hl.1 rfl (Nat.le_of_ble_eq_true rfl) dX9_isBlocked_57) (fun H locs hH hS => ?_)
          refine lv_iadd hx hb dX9_isBlocked_60 ?_
          refine r_top (show (((nI pc) + (nrI ((2 : Int32) * ((nI k) * (nI c - nI pc)) + (nI N)) ((2 : Int32) * (nI N)))) : Int32) = nI (qz k N pc c) from ln_m hk1 c33 (by omega) h2 h4 hn2) ?_
          refine lv_istore (lv' := [(9, .int (nI (qz k N pc c))), (8, .int (nI (qz k N pr r))), (0, .ref (G.2.1 29)), (1, .int (nI pr)), (2, .int (nI pc)), (3, .int (nI r - nI pr)), (4, .int (nI c - nI pc)), (5, .int h), (6, .int (nI N)), (7, .int (nI k))]) hx hb dX9_isBlocked_61 hl (by decide) rfl (fun ls hl => ?_)
          refine lv_aload_n hx hb dX9_isBlocked_63 rfl (lv_at hl 2 rfl) ?_
          refine r_get CF hK hH 29 (Nat.le_of_ble_eq_true rfl) rfl rfl JX9 9 (by decide) K1 rfl dX9_isBlocked_64 ?_
          refine lv_bipush (v := 16) hx hb dX9_isBlocked_67 (by decide) ?_
          refine lv_iload hx hb dX9_isBlocked_69 (lv_at hl 1 rfl) ?_
          refine lv_imul hx hb dX9_isBlocked_71 ?_
          refine lv_iload hx hb dX9_isBlocked_72 (lv_at hl 0 rfl) ?_
          refine lv_iadd hx hb dX9_isBlocked_74 ?_
          refine r_top (show ((((16 : Int32) * (nI (qz k N pr r))) + (nI (qz k N pc c))) : Int32) = nI (16 * qz k N pr r + qz k N pc c) from ix16b _ _) ?_
          refine r_iald CF hK hH 30 (Nat.le_of_ble_eq_true rfl) rfl (Nat.le_of_ble_eq_true rfl) (16 * qz k N pr r + qz k N pc c) rfl (by omega) dX9_isBlocked_75 ?_
          refine lv_iload hx hb dX9_isBlocked_76 (lv_at hl 8 rfl) ?_
          refine lv_imul hx hb dX9_isBlocked_78 ?_
          refine lv_aload_n hx hb dX9_isBlocked_79 rfl (lv_at hl 2 rfl) ?_
          refine r_get CF hK hH 29 (Nat.le_of_ble_eq_true rfl) rfl rfl JX9 2 (by decide) K2 rfl dX9_isBlocked_80 ?_
          refine lv_iload hx hb dX9_isBlocked_83 (lv_at hl 8 rfl) ?_
          refine lv_imul hx hb dX9_isBlocked_85 ?_
          refine lv_iload hx hb dX9_isBlocked_86 (lv_at hl 7 rfl) ?_
          refine lv_aload_n hx hb dX9_isBlocked_88 rfl (lv_at hl 2 rfl) ?_
          refine r_get CF hK hH 29 (Nat.le_of_ble_eq_true rfl) rfl rfl JX9 2 (by decide) K2 rfl dX9_isBlocked_89 ?_
          refine lv_isub hx hb dX9_isBlocked_92 ?_
          refine lv_iload hx hb dX9_isBlocked_93 (lv_at hl 9 rfl) ?_
          refine lv_imul hx hb dX9_isBlocked_95 ?_
          refine lv_iadd hx hb dX9_isBlocked_96 ?_
          refine lv_icmp_le (tgt := 102) hx hb dX9_isBlocked_97 (by decide) (fun c97 => ?_) (fun c97 => ?_)
          · refine lv_iinc (v := nI (k + 1)) (lv' := [(7, .int (nI (k + 1))), (9, .int (nI (qz k N pc c))), (8, .int (nI (qz k N pr r))), (0, .ref (G.2.1 29)), (1, .int (nI pr)), (2, .int (nI pc)), (3, .int (nI r - nI pr)), (4, .int (nI c - nI pc)), (5, .int h), (6, .int (nI N))]) hx hb dX9_isBlocked_102 hl (k := 9) rfl (nI_1 _) (by decide) rfl (fun ls hl => ?_)
            refine lv_goto (tgt := 29) hx hb dX9_isBlocked_105 (by decide) ?_
            exact ih29 (k + 1) _ _ ls (by omega) (by omega) (by omega) (by rw [cnt_f (by simp [blk, c97]), hz]) hH hS (lv_sub hl [3, 4, 5, 6, 7, 8, 9, 0] rfl)
          · refine lv_iconst (v := 1) hx hb dX9_isBlocked_100 (by decide) ?_
            exact r_zret CF hr hlk hH hS rfl dX9_isBlocked_101 ⟨by unfold lfr; rw [hN]; have := cnt_pos (p := blk (σ 30) (σ 29 2) h pr pc r c N) (i := k) (by simp [blk, c97, hk1]) c33; simp [b2i]; omega, rfl⟩
    exact lp29 16 1 _ _ ls (by omega) (by omega) (by omega) (by simp [cnt, blk]) hH hS (lv_sub hl [2, 3, 4, 5, 6, 7, 1, 0] rfl)
  · refine lv_iload_n hx hb dX9_isBlocked_12 rfl (lv_at hl 3 rfl) ?_
    refine r_cR hS (r_runS (n := 1) (As := [.int (nI r - nI pr)]) (rest := []) CF hK hH (c_X9_size l G σ (nI r - nI pr)) gX9_isBlocked_X9_size rfl rfl rfl (by decide +kernel) ⟨⟨Nat.le_of_ble_eq_true rfl, Nat.le_of_ble_eq_true rfl⟩, Nat.le_of_ble_eq_true rfl, Nat.le_of_ble_eq_true rfl⟩ rfl hl.1 rfl (Nat.le_of_ble_eq_true rfl) dX9_isBlocked_13) (fun H locs hH hS => ?_)
    refine r_top (show (ab (nI r - nI pr) : Int32) = nI N from (ng c9)) ?_
    refine lv_goto (tgt := 24) hx hb dX9_isBlocked_16 (by decide) ?_
    refine lv_istore (lv' := [(6, .int (nI N)), (0, .ref (G.2.1 29)), (1, .int (nI pr)), (2, .int (nI pc)), (3, .int (nI r - nI pr)), (4, .int (nI c - nI pc)), (5, .int h)]) hx hb dX9_isBlocked_24 hl (by decide) rfl (fun ls hl => ?_)
    refine lv_iconst (v := 1) hx hb dX9_isBlocked_26 (by decide) ?_
    refine lv_istore (lv' := [(7, .int (1 : Int32)), (6, .int (nI N)), (0, .ref (G.2.1 29)), (1, .int (nI pr)), (2, .int (nI pc)), (3, .int (nI r - nI pr)), (4, .int (nI c - nI pc)), (5, .int h)]) hx hb dX9_isBlocked_27 hl (by decide) rfl (fun ls hl => ?_)
    have lp29 : ∀ (fu : Nat) (k : Nat) (H : Heap) (locs : List Loc) (ls : Array Slot), (17 ≤ k + fu) → (1 ≤ k) → (k ≤ 16) → (cnt (blk (σ 30) (σ 29 2) h pr pc r c N) k = 0) → Hp G σ H → va_S (fr G) sz.heap H locs → lv_has ls 10 [(0, .ref (G.2.1 29)), (1, .int (nI pr)), (2, .int (nI pc)), (3, .int (nI r - nI pr)), (4, .int (nI c - nI pc)), (5, .int h), (6, .int (nI N)), (7, .int (nI k))] → W pz l ez (rmO 1 24) sz mz (List.toArray [.ref (G.2.1 29), .int (nI pr), .int (nI pc), .int (nI r - nI pr), .int (nI c - nI pc), .int h]) below meth cz H locs 0 0 (MQ below (QI G (RV (b2i (!lfr (σ 30) (σ 29 2) h pr pc r c)) σ)) (List.toArray [.ref (G.2.1 29), .int (nI pr), .int (nI pc), .int (nI r - nI pr), .int (nI c - nI pc), .int h]) sz 0 0 (fr G)) (F0 mz 29 ls []) := by
      intro fu
      induction fu with
      | zero => intros; omega
      | succ fu ih29 =>
        intro k H locs ls hf hk1 hk16 hz hH hS hl
        refine lv_iload hx hb dX9_isBlocked_29 (lv_at hl 7 rfl) ?_
        refine lv_iload hx hb dX9_isBlocked_31 (lv_at hl 6 rfl) ?_
        refine lv_icmp_ge (tgt := 108) hx hb dX9_isBlocked_33 (by decide) (fun c33 => ?_) (fun c33 => ?_)
        · have c33 : N ≤ k := (nI_leI (a := N) (b := k) (by omega) (by omega)).mp c33
          refine lv_iconst (v := 0) hx hb dX9_isBlocked_108 (by decide) ?_
          exact r_zret CF hr hlk hH hS rfl dX9_isBlocked_109 ⟨by unfold lfr; rw [hN]; have e := cnt_mono (blk (σ 30) (σ 29 2) h pr pc r c N) c33; rw [hz] at e; simp [b2i]; omega, rfl⟩
        · have c33 : k < N := Nat.lt_of_not_le (fun zq => c33 ((nI_leI (a := N) (b := k) (by omega) (by omega)).mpr zq))
          have q1 := qz_lt hk1 c33 hn1 h1 h3
          have q2 := qz_lt hk1 c33 hn2 h2 h4
          refine lv_iload_n hx hb dX9_isBlocked_36 rfl (lv_at hl 1 rfl) ?_
          refine lv_iload hx hb dX9_isBlocked_37 (lv_at hl 7 rfl) ?_
          refine lv_iload_n hx hb dX9_isBlocked_39 rfl (lv_at hl 3 rfl) ?_
          refine lv_imul hx hb dX9_isBlocked_40 ?_
          refine lv_iload hx hb dX9_isBlocked_41 (lv_at hl 6 rfl) ?_
          refine r_cR hS (r_runS (n := 2) (As := [.int ((nI k) * (nI r - nI pr)), .int (nI N)]) (rest := [.int (nI pr)]) CF hK hH (c_X9_nearest l G σ ((nI k) * (nI r - nI pr)) (nI N) (twon (by omega) hnn)) gX9_isBlocked_X9_nearest rfl rfl rfl (by decide +kernel) ⟨⟨Nat.le_of_ble_eq_true rfl, Nat.le_of_ble_eq_true rfl⟩, Nat.le_of_ble_eq_true rfl, Nat.le_of_ble_eq_true rfl⟩ rfl hl.1 rfl (Nat.le_of_ble_eq_true rfl) dX9_isBlocked_43) (fun H locs hH hS => ?_)
          refine lv_iadd hx hb dX9_isBlocked_46 ?_
          refine r_top (show (((nI pr) + (nrI ((2 : Int32) * ((nI k) * (nI r - nI pr)) + (nI N)) ((2 : Int32) * (nI N)))) : Int32) = nI (qz k N pr r) from ln_m hk1 c33 (by omega) (by omega) (by omega) hn1) ?_
          refine lv_istore (lv' := [(8, .int (nI (qz k N pr r))), (0, .ref (G.2.1 29)), (1, .int (nI pr)), (2, .int (nI pc)), (3, .int (nI r - nI pr)), (4, .int (nI c - nI pc)), (5, .int h), (6, .int (nI N)), (7, .int (nI k))]) hx hb dX9_isBlocked_47 hl (by decide) rfl (fun ls hl => ?_)
          refine lv_iload_n hx hb dX9_isBlocked_49 rfl (lv_at hl 3 rfl) ?_
          refine lv_iload hx hb dX9_isBlocked_50 (lv_at hl 8 rfl) ?_
          refine lv_iload hx hb dX9_isBlocked_52 (lv_at hl 5 rfl) ?_
          refine lv_imul hx hb dX9_isBlocked_54 ?_
          refine lv_iload hx hb dX9_isBlocked_55 (lv_at hl 7 rfl) ?_
          refine r_cR hS (r_runS (n := 2) (As := [.int ((nI k) * (nI c - nI pc)), .int (nI N)]) (rest := [.int (nI pc)]) CF hK hH (c_X9_nearest l G σ ((nI k) * (nI c - nI pc)) (nI N) (twon (by omega) hnn)) gX9_isBlocked_X9_nearest rfl rfl rfl (by decide +kernel) ⟨⟨Nat.le_of_ble_eq_true rfl, Nat.le_of_ble_eq_true rfl⟩, Nat.le_of_ble_eq_true rfl, Nat.le_of_ble_eq_true rfl⟩ rfl hl.1 rfl (Nat.le_of_ble_eq_true rfl) dX9_isBlocked_57) (fun H locs hH hS => ?_)
          refine lv_iadd hx hb dX9_isBlocked_60 ?_
          refine r_top (show (((nI pc) + (nrI ((2 : Int32) * ((nI k) * (nI c - nI pc)) + (nI N)) ((2 : Int32) * (nI N)))) : Int32) = nI (qz k N pc c) from ln_m hk1 c33 (by omega) h2 h4 hn2) ?_
          refine lv_istore (lv' := [(9, .int (nI (qz k N pc c))), (8, .int (nI (qz k N pr r))), (0, .ref (G.2.1 29)), (1, .int (nI pr)), (2, .int (nI pc)), (3, .int (nI r - nI pr)), (4, .int (nI c - nI pc)), (5, .int h), (6, .int (nI N)), (7, .int (nI k))]) hx hb dX9_isBlocked_61 hl (by decide) rfl (fun ls hl => ?_)
          refine lv_aload_n hx hb dX9_isBlocked_63 rfl (lv_at hl 2 rfl) ?_
          refine r_get CF hK hH 29 (Nat.le_of_ble_eq_true rfl) rfl rfl JX9 9 (by decide) K1 rfl dX9_isBlocked_64 ?_
          refine lv_bipush (v := 16) hx hb dX9_isBlocked_67 (by decide) ?_
          refine lv_iload hx hb dX9_isBlocked_69 (lv_at hl 1 rfl) ?_
          refine lv_imul hx hb dX9_isBlocked_71 ?_
          refine lv_iload hx hb dX9_isBlocked_72 (lv_at hl 0 rfl) ?_
          refine lv_iadd hx hb dX9_isBlocked_74 ?_
          refine r_top (show ((((16 : Int32) * (nI (qz k N pr r))) + (nI (qz k N pc c))) : Int32) = nI (16 * qz k N pr r + qz k N pc c) from ix16b _ _) ?_
          refine r_iald CF hK hH 30 (Nat.le_of_ble_eq_true rfl) rfl (Nat.le_of_ble_eq_true rfl) (16 * qz k N pr r + qz k N pc c) rfl (by omega) dX9_isBlocked_75 ?_
          refine lv_iload hx hb dX9_isBlocked_76 (lv_at hl 8 rfl) ?_
          refine lv_imul hx hb dX9_isBlocked_78 ?_
          refine lv_aload_n hx hb dX9_isBlocked_79 rfl (lv_at hl 2 rfl) ?_
          refine r_get CF hK hH 29 (Nat.le_of_ble_eq_true rfl) rfl rfl JX9 2 (by decide) K2 rfl dX9_isBlocked_80 ?_
          refine lv_iload hx hb dX9_isBlocked_83 (lv_at hl 8 rfl) ?_
          refine lv_imul hx hb dX9_isBlocked_85 ?_
          refine lv_iload hx hb dX9_isBlocked_86 (lv_at hl 7 rfl) ?_
          refine lv_aload_n hx hb dX9_isBlocked_88 rfl (lv_at hl 2 rfl) ?_
          refine r_get CF hK hH 29 (Nat.le_of_ble_eq_true rfl) rfl rfl JX9 2 (by decide) K2 rfl dX9_isBlocked_89 ?_
          refine lv_isub hx hb dX9_isBlocked_92 ?_
          refine lv_iload hx hb dX9_isBlocked_93 (lv_at hl 9 rfl) ?_
          refine lv_imul hx hb dX9_isBlocked_95 ?_
          refine lv_iadd hx hb dX9_isBlocked_96 ?_
          refine lv_icmp_le (tgt := 102) hx hb dX9_isBlocked_97 (by decide) (fun c97 => ?_) (fun c97 => ?_)
          · refine lv_iinc (v := nI (k + 1)) (lv' := [(7, .int (nI (k + 1))), (9, .int (nI (qz k N pc c))), (8, .int (nI (qz k N pr r))), (0, .ref (G.2.1 29)), (1, .int (nI pr)), (2, .int (nI pc)), (3, .int (nI r - nI pr)), (4, .int (nI c - nI pc)), (5, .int h), (6, .int (nI N))]) hx hb dX9_isBlocked_102 hl (k := 9) rfl (nI_1 _) (by decide) rfl (fun ls hl => ?_)
            refine lv_goto (tgt := 29) hx hb dX9_isBlocked_105 (by decide) ?_
            exact ih29 (k + 1) _ _ ls (by omega) (by omega) (by omega) (by rw [cnt_f (by simp [blk, c97]), hz]) hH hS (lv_sub hl [3, 4, 5, 6, 7, 8, 9, 0] rfl)
          · refine lv_iconst (v := 1) hx hb dX9_isBlocked_100 (by decide) ?_
            exact r_zret CF hr hlk hH hS rfl dX9_isBlocked_101 ⟨by unfold lfr; rw [hN]; have := cnt_pos (p := blk (σ 30) (σ 29 2) h pr pc r c N) (i := k) (by simp [blk, c97, hk1]) c33; simp [b2i]; omega, rfl⟩
    exact lp29 16 1 _ _ ls (by omega) (by omega) (by omega) (by simp [cnt, blk]) hH hS (lv_sub hl [2, 3, 4, 5, 6, 7, 1, 0] rfl)

set_option maxRecDepth 100000 in
set_option maxHeartbeats 4000000 in
theorem c_X9_sees (l : Launch) (G : Gm) (σ : Sg) (pr pc r c : Nat) (h1 : pr < 10) (h2 : pc < 16) (h3 : r < 10) (h4 : c < 16) : Met l yX9_sees wsX9_sees (rmO 2 53) (PP G [.ref (G.2.1 29), .int (nI pr), .int (nI pc), .int (nI r), .int (nI c)] σ) (QI G (RV (b2i (seesF (σ 30) (cmM σ) pr pc r c)) σ)) 0 0 (fr G) := by
  refine r_start (cc := cX9_sees) (maxL := 8) (ret := (some .boolean)) (by decide) rfl (Nat.le_of_ble_eq_true rfl) ?_
  intro pz ez sz mz below meth cz ls CF hr hlk hK hH hS hl
  have CF : CallFix pz mz cz cX9_sees 8 sz (List.toArray [.ref (G.2.1 29), .int (nI pr), .int (nI pc), .int (nI r), .int (nI c)]) wsX9_sees RX9 := CF
  have hx := CF.1
  have hb := CF.2.1
  have hown := CF.2.2.2.1
  have hts := CF.2.2.2.2
  have hl : lv_has ls 8 [(0, .ref (G.2.1 29)), (1, .int (nI pr)), (2, .int (nI pc)), (3, .int (nI r)), (4, .int (nI c))] := hl
  have K1 := hts _ (List.mem_of_getElem? (i := 1) rfl)
  have K2 := hts _ (List.mem_of_getElem? (i := 2) rfl)
  have K3 := hts _ (List.mem_of_getElem? (i := 3) rfl)
  have K4 := hts _ (List.mem_of_getElem? (i := 4) rfl)
  have K5 := hts _ (List.mem_of_getElem? (i := 5) rfl)
  have JX9 : ∀ w ∈ wsX90, w ∈ wsX9_sees := in_r _ [17, 18, 19, 20, 21, 22, 23, 24, 25, 26, 27, 28, 29, 30, 31, 32, 33, 34, 35, 36] (by decide +kernel)
  refine lv_aload_n hx hb dX9_sees_0 rfl (lv_at hl 0 rfl) ?_
  refine r_get CF hK hH 29 (Nat.le_of_ble_eq_true rfl) rfl rfl JX9 9 (by decide) K1 rfl dX9_sees_1 ?_
  refine lv_bipush (v := 16) hx hb dX9_sees_4 (by decide) ?_
  refine lv_iload_n hx hb dX9_sees_6 rfl (lv_at hl 3 rfl) ?_
  refine lv_imul hx hb dX9_sees_7 ?_
  refine lv_iload hx hb dX9_sees_8 (lv_at hl 4 rfl) ?_
  refine lv_iadd hx hb dX9_sees_10 ?_
  refine r_top (show ((((16 : Int32) * (nI r)) + (nI c)) : Int32) = nI (16 * r + c) from ix16b r c) ?_
  refine r_iald CF hK hH 30 (Nat.le_of_ble_eq_true rfl) rfl (Nat.le_of_ble_eq_true rfl) (16 * r + c) rfl (by omega) dX9_sees_11 ?_
  refine lv_istore (lv' := [(5, .int (σ 30 (16 * r + c))), (0, .ref (G.2.1 29)), (1, .int (nI pr)), (2, .int (nI pc)), (3, .int (nI r)), (4, .int (nI c))]) hx hb dX9_sees_12 hl (by decide) rfl (fun ls hl => ?_)
  refine lv_iload_n hx hb dX9_sees_14 rfl (lv_at hl 4 rfl) ?_
  refine lv_iload_n hx hb dX9_sees_15 rfl (lv_at hl 2 rfl) ?_
  refine lv_isub hx hb dX9_sees_16 ?_
  refine lv_istore (lv' := [(6, .int ((nI r) - (nI pr))), (5, .int (σ 30 (16 * r + c))), (0, .ref (G.2.1 29)), (1, .int (nI pr)), (2, .int (nI pc)), (3, .int (nI r)), (4, .int (nI c))]) hx hb dX9_sees_17 hl (by decide) rfl (fun ls hl => ?_)
  refine lv_iload hx hb dX9_sees_19 (lv_at hl 6 rfl) ?_
  refine lv_iload_n hx hb dX9_sees_21 rfl (lv_at hl 4 rfl) ?_
  refine lv_isub hx hb dX9_sees_22 ?_
  refine lv_istore (lv' := [(7, .int ((nI c) - (nI pc))), (6, .int ((nI r) - (nI pr))), (5, .int (σ 30 (16 * r + c))), (0, .ref (G.2.1 29)), (1, .int (nI pr)), (2, .int (nI pc)), (3, .int (nI r)), (4, .int (nI c))]) hx hb dX9_sees_23 hl (by decide) rfl (fun ls hl => ?_)
  refine lv_aload_n hx hb dX9_sees_25 rfl (lv_at hl 3 rfl) ?_
  refine r_get CF hK hH 29 (Nat.le_of_ble_eq_true rfl) rfl rfl JX9 2 (by decide) K2 rfl dX9_sees_26 ?_
  refine lv_iload hx hb dX9_sees_29 (lv_at hl 2 rfl) ?_
  refine lv_icmp_le (tgt := 102) hx hb dX9_sees_31 (by decide) (fun c31 => ?_) (fun c31 => ?_)
  · have c31 : ¬ σ 30 (16 * r + c) < σ 29 2 := Int32.not_lt.mpr c31
    refine lv_iconst (v := 0) hx hb dX9_sees_102 (by decide) ?_
    exact r_zret CF hr hlk hH hS rfl dX9_sees_103 ⟨by simp [seesF, cmM, b2i, c31], rfl⟩
  · have c31 : σ 30 (16 * r + c) < σ 29 2 := Int32.not_le.mp c31
    refine lv_bipush (v := 100) hx hb dX9_sees_34 (by decide) ?_
    refine lv_iload hx hb dX9_sees_36 (lv_at hl 0 rfl) ?_
    refine lv_imul hx hb dX9_sees_38 ?_
    refine lv_aload_n hx hb dX9_sees_39 rfl (lv_at hl 3 rfl) ?_
    refine r_get CF hK hH 29 (Nat.le_of_ble_eq_true rfl) rfl rfl JX9 5 (by decide) K3 rfl dX9_sees_40 ?_
    refine lv_iload hx hb dX9_sees_43 (lv_at hl 1 rfl) ?_
    refine lv_imul hx hb dX9_sees_45 ?_
    refine lv_iadd hx hb dX9_sees_46 ?_
    refine r_cR hS (r_runS (n := 1) (As := [.int (((100 : Int32) * ((nI c) - (nI pc))) + ((σ 29 5) * ((nI r) - (nI pr))))]) (rest := []) CF hK hH (c_X9_size l G σ (((100 : Int32) * ((nI c) - (nI pc))) + ((σ 29 5) * ((nI r) - (nI pr))))) gX9_sees_X9_size rfl rfl rfl (by decide +kernel) ⟨⟨Nat.le_of_ble_eq_true rfl, Nat.le_of_ble_eq_true rfl⟩, Nat.le_of_ble_eq_true rfl, Nat.le_of_ble_eq_true rfl⟩ rfl hl.1 rfl (Nat.le_of_ble_eq_true rfl) dX9_sees_47) (fun H locs hH hS => ?_)
    refine lv_aload_n hx hb dX9_sees_50 rfl (lv_at hl 3 rfl) ?_
    refine r_get CF hK hH 29 (Nat.le_of_ble_eq_true rfl) rfl rfl JX9 2 (by decide) K2 rfl dX9_sees_51 ?_
    refine lv_iload hx hb dX9_sees_54 (lv_at hl 2 rfl) ?_
    refine lv_isub hx hb dX9_sees_56 ?_
    refine lv_aload_n hx hb dX9_sees_57 rfl (lv_at hl 3 rfl) ?_
    refine r_get CF hK hH 29 (Nat.le_of_ble_eq_true rfl) rfl rfl JX9 3 (by decide) K4 rfl dX9_sees_58 ?_
    refine lv_imul hx hb dX9_sees_61 ?_
    refine lv_bipush (v := 10) hx hb dX9_sees_62 (by decide) ?_
    refine lv_idiv hx hb dX9_sees_64 (by decide) ?_
    refine lv_icmp_gt (tgt := 102) hx hb dX9_sees_65 (by decide) (fun c65 => ?_) (fun c65 => ?_)
    · refine lv_iconst (v := 0) hx hb dX9_sees_102 (by decide) ?_
      exact r_zret CF hr hlk hH hS rfl dX9_sees_103 ⟨by simp [seesF, cmM, b2i, c31, c65], rfl⟩
    · refine lv_bipush (v := 100) hx hb dX9_sees_68 (by decide) ?_
      refine lv_iload hx hb dX9_sees_70 (lv_at hl 1 rfl) ?_
      refine lv_imul hx hb dX9_sees_72 ?_
      refine lv_aload_n hx hb dX9_sees_73 rfl (lv_at hl 3 rfl) ?_
      refine r_get CF hK hH 29 (Nat.le_of_ble_eq_true rfl) rfl rfl JX9 5 (by decide) K3 rfl dX9_sees_74 ?_
      refine lv_iload hx hb dX9_sees_77 (lv_at hl 0 rfl) ?_
      refine lv_imul hx hb dX9_sees_79 ?_
      refine lv_isub hx hb dX9_sees_80 ?_
      refine r_cR hS (r_runS (n := 1) (As := [.int (((100 : Int32) * ((nI r) - (nI pr))) - ((σ 29 5) * ((nI c) - (nI pc))))]) (rest := []) CF hK hH (c_X9_size l G σ (((100 : Int32) * ((nI r) - (nI pr))) - ((σ 29 5) * ((nI c) - (nI pc))))) gX9_sees_X9_size rfl rfl rfl (by decide +kernel) ⟨⟨Nat.le_of_ble_eq_true rfl, Nat.le_of_ble_eq_true rfl⟩, Nat.le_of_ble_eq_true rfl, Nat.le_of_ble_eq_true rfl⟩ rfl hl.1 rfl (Nat.le_of_ble_eq_true rfl) dX9_sees_81) (fun H locs hH hS => ?_)
      refine lv_aload_n hx hb dX9_sees_84 rfl (lv_at hl 3 rfl) ?_
      refine r_get CF hK hH 29 (Nat.le_of_ble_eq_true rfl) rfl rfl JX9 2 (by decide) K2 rfl dX9_sees_85 ?_
      refine lv_iload hx hb dX9_sees_88 (lv_at hl 2 rfl) ?_
      refine lv_isub hx hb dX9_sees_90 ?_
      refine lv_aload_n hx hb dX9_sees_91 rfl (lv_at hl 3 rfl) ?_
      refine r_get CF hK hH 29 (Nat.le_of_ble_eq_true rfl) rfl rfl JX9 4 (by decide) K5 rfl dX9_sees_92 ?_
      refine lv_imul hx hb dX9_sees_95 ?_
      refine lv_bipush (v := 10) hx hb dX9_sees_96 (by decide) ?_
      refine lv_idiv hx hb dX9_sees_98 (by decide) ?_
      refine lv_icmp_le (tgt := 104) hx hb dX9_sees_99 (by decide) (fun c99 => ?_) (fun c99 => ?_)
      · have c99 := Int32.not_lt.mpr c99
        refine lv_aload_n hx hb dX9_sees_104 rfl (lv_at hl 3 rfl) ?_
        refine lv_iload_n hx hb dX9_sees_105 rfl (lv_at hl 4 rfl) ?_
        refine lv_iload_n hx hb dX9_sees_106 rfl (lv_at hl 5 rfl) ?_
        refine lv_iload hx hb dX9_sees_107 (lv_at hl 1 rfl) ?_
        refine lv_iload hx hb dX9_sees_109 (lv_at hl 0 rfl) ?_
        refine lv_iload hx hb dX9_sees_111 (lv_at hl 2 rfl) ?_
        refine r_cR hS (r_runV (n := 5) (As := [.int (nI pr), .int (nI pc), .int ((nI r) - (nI pr)), .int ((nI c) - (nI pc)), .int (σ 30 (16 * r + c))]) (rest := []) CF hK hH (c_X9_isBlocked l G σ pr pc r c (σ 30 (16 * r + c)) h1 h2 h3 h4) gX9_sees_X9_isBlocked rfl rfl rfl rfl (by decide +kernel) ⟨⟨Nat.le_of_ble_eq_true rfl, Nat.le_of_ble_eq_true rfl⟩, Nat.le_of_ble_eq_true rfl, Nat.le_of_ble_eq_true rfl⟩ 29 rfl (Nat.le_of_ble_eq_true rfl) rfl rfl rfl hl.1 rfl (Nat.le_of_ble_eq_true rfl) dX9_sees_113) (fun H locs hH hS => ?_)
        refine r_ifneB (tgt := 123) hx hb dX9_sees_116 (by decide) (fun c116 => ?_) (fun c116 => ?_)
        · rw [Bool.not_eq_true'] at c116
          refine lv_iconst (v := 0) hx hb dX9_sees_123 (by decide) ?_
          exact r_zret CF hr hlk hH hS rfl dX9_sees_124 ⟨by simp [seesF, cmM, b2i, c31, c65, c99, c116], rfl⟩
        · rw [Bool.not_eq_false'] at c116
          refine lv_iconst (v := 1) hx hb dX9_sees_119 (by decide) ?_
          refine lv_goto (tgt := 124) hx hb dX9_sees_120 (by decide) ?_
          exact r_zret CF hr hlk hH hS rfl dX9_sees_124 ⟨by simp [seesF, cmM, b2i, c31, c65, c99, c116], rfl⟩
      · have c99 := Int32.not_le.mp c99
        refine lv_iconst (v := 0) hx hb dX9_sees_102 (by decide) ?_
        exact r_zret CF hr hlk hH hS rfl dX9_sees_103 ⟨by simp [seesF, cmM, b2i, c31, c65, c99], rfl⟩
