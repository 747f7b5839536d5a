theorem dvd_nI {z C : Nat} (hz : z < 2 ^ 20) (hC : 1 ≤ C) (hC2 : C ≤ 16) : nI z / nI C = nI (z / C) ∧ nI z - nI z / nI C * nI C = nI (z % C) := ⟨pk_div (by omega) (by omega) (by omega), pk_rem (by omega) (by omega) (by omega)⟩
theorem zC {z R C : Nat} (hz : z < R * C) (hC : 1 ≤ C) : z / C < R ∧ z % C < C := ⟨(Nat.div_lt_iff_lt_mul (by omega)).mpr hz, Nat.mod_lt _ (by omega)⟩
theorem RC_le {R C : Nat} (hR : R ≤ 10) (hC : C ≤ 16) : R * C ≤ 160 := Nat.mul_le_mul hR hC

set_option maxRecDepth 100000 in
set_option maxHeartbeats 4000000 in
theorem c_X9_photoSees (l : Launch) (G : Gm) (σ : Sg) (R C n : Nat) (sq : Nat → S4) (hA : MA σ R C n sq) (i p z : Nat) (hi : i < n) (hp : p < phF (sq i)) (hz : z < R * C) : Met l yX9_photoSees wsX9_photoSees (rmO 3 80) (PP G [.ref (G.2.1 29), .int (nI i), .int (nI p), .int (nI z)] σ) (QI G (RV (b2i (psF (σ 30) (cmM σ) (sq i) p (z / C) (z % C))) σ)) 0 0 (fr G) := by
  refine r_start (cc := cX9_photoSees) (maxL := 4) (ret := (some .boolean)) (by decide) rfl (Nat.le_of_ble_eq_true rfl) ?_
  intro pz ez sz mz below meth cz ls CF hr hlk hK hH hS hl
  have CF : CallFix pz mz cz cX9_photoSees 4 sz (List.toArray [.ref (G.2.1 29), .int (nI i), .int (nI p), .int (nI z)]) wsX9_photoSees RX9 := CF
  have hx := CF.1
  have hb := CF.2.1
  have hown := CF.2.2.2.1
  have hts := CF.2.2.2.2
  have hl : lv_has ls 4 [(0, .ref (G.2.1 29)), (1, .int (nI i)), (2, .int (nI p)), (3, .int (nI z))] := hl
  have K1 := hts _ (List.mem_of_getElem? (i := 1) rfl)
  have K2 := hts _ (List.mem_of_getElem? (i := 2) rfl)
  have JX9 : ∀ w ∈ wsX90, w ∈ wsX9_photoSees := in_r _ [29, 30, 31, 32, 33, 34, 35, 36, 37, 38, 39, 40, 41, 42, 43, 44, 45, 46, 47, 48] (by decide +kernel)
  obtain ⟨hR, hC, hR3, hR10, hC4, hC16, hM⟩ := hA
  have hn := hM.1
  have hn8 := hM.2.1
  have hq := (hM.2.2 i hi).2.2.2.2
  have hcol := ph_col hq hp
  obtain ⟨hz1, hz2⟩ := zC hz (by omega)
  have hRC := RC_le hR10 hC16
  obtain ⟨d1, d2⟩ := dvd_nI (z := z) (C := C) (by omega) (by omega) hC16
  refine lv_aload_n hx hb dX9_photoSees_0 rfl (lv_at hl 0 rfl) ?_
  refine lv_aload_n hx hb dX9_photoSees_1 rfl (lv_at hl 0 rfl) ?_
  refine r_get CF hK hH 29 (Nat.le_of_ble_eq_true rfl) rfl rfl JX9 11 (by decide) K1 rfl dX9_photoSees_2 ?_
  refine lv_iload_n hx hb dX9_photoSees_5 rfl (lv_at hl 1 rfl) ?_
  refine r_iald CF hK hH 31 (Nat.le_of_ble_eq_true rfl) rfl (Nat.le_of_ble_eq_true rfl) i rfl (by omega) dX9_photoSees_6 ?_
  refine r_top (show (σ 31 i : Int32) = nI (sq i).1 from (hM.2.2 i hi).1) ?_
  refine lv_aload_n hx hb dX9_photoSees_7 rfl (lv_at hl 0 rfl) ?_
  refine lv_iload_n hx hb dX9_photoSees_8 rfl (lv_at hl 1 rfl) ?_
  refine lv_iload_n hx hb dX9_photoSees_9 rfl (lv_at hl 2 rfl) ?_
  refine r_cR hS (r_runV (n := 2) (As := [.int (nI i), .int (nI p)]) (rest := [.int (nI (sq i).1), .ref (G.2.1 29)]) CF hK hH (c_X9_columnOf l G σ n sq hM i (by omega) p) gX9_photoSees_X9_columnOf rfl rfl rfl rfl (by decide +kernel) ⟨⟨Nat.le_of_ble_eq_true rfl, Nat.le_of_ble_eq_true rfl⟩, Nat.le_of_ble_eq_true rfl, Nat.le_of_ble_eq_true rfl⟩ 29 rfl (Nat.le_of_ble_eq_true rfl) rfl rfl rfl hl.1 rfl (Nat.le_of_ble_eq_true rfl) dX9_photoSees_10) (fun H locs hH hS => ?_)
  refine lv_iload_n hx hb dX9_photoSees_13 rfl (lv_at hl 3 rfl) ?_
  refine lv_aload_n hx hb dX9_photoSees_14 rfl (lv_at hl 0 rfl) ?_
  refine r_get CF hK hH 29 (Nat.le_of_ble_eq_true rfl) rfl rfl JX9 1 (by decide) K2 rfl dX9_photoSees_15 ?_
  refine r_top (show (σ 29 1 : Int32) = nI C from hC) ?_
  refine lv_idiv hx hb dX9_photoSees_18 (nI_ne0 (by omega) (by omega)) ?_
  refine r_top (show (((nI z) / (nI C)) : Int32) = nI (z / C) from d1) ?_
  refine lv_iload_n hx hb dX9_photoSees_19 rfl (lv_at hl 3 rfl) ?_
  refine lv_aload_n hx hb dX9_photoSees_20 rfl (lv_at hl 0 rfl) ?_
  refine r_get CF hK hH 29 (Nat.le_of_ble_eq_true rfl) rfl rfl JX9 1 (by decide) K2 rfl dX9_photoSees_21 ?_
  refine r_top (show (σ 29 1 : Int32) = nI C from hC) ?_
  refine lv_irem hx hb dX9_photoSees_24 (nI_ne0 (by omega) (by omega)) ?_
  refine r_top (show (((nI z) - (nI z) / (nI C) * (nI C)) : Int32) = nI (z % C) from d2) ?_
  refine r_cR hS (r_runV (n := 4) (As := [.int (nI (sq i).1), .int (nI ((sq i).2.1 + p * (sq i).2.2.2)), .int (nI (z / C)), .int (nI (z % C))]) (rest := []) CF hK hH (c_X9_sees l G σ (sq i).1 ((sq i).2.1 + p * (sq i).2.2.2) (z / C) (z % C) hq.1 (by have := hq.2.2.1; omega) (by omega) (by omega)) gX9_photoSees_X9_sees rfl rfl rfl rfl (by decide +kernel) ⟨⟨Nat.le_of_ble_eq_true rfl, Nat.le_of_ble_eq_true rfl⟩, Nat.le_of_ble_eq_true rfl, Nat.le_of_ble_eq_true rfl⟩ 29 rfl (Nat.le_of_ble_eq_true rfl) rfl rfl rfl hl.1 rfl (Nat.le_of_ble_eq_true rfl) dX9_photoSees_25) (fun H locs hH hS => ?_)
  exact r_zret CF hr hlk hH hS (b2i_nar _) dX9_photoSees_28 ⟨rfl, rfl⟩

set_option maxRecDepth 100000 in
set_option maxHeartbeats 4000000 in
theorem c_X9_seesCell (l : Launch) (G : Gm) (σ : Sg) (R C n : Nat) (sq : Nat → S4) (hA : MA σ R C n sq) (x p y z : Int32) : Met l yX9_seesCell wsX9_seesCell (rmO 3 80) (PP G [.ref (G.2.1 29), .int x, .int p, .int y, .int z] σ) (QI G (RV (aSee R C (σ 30) (cmM σ) n sq x p y z) σ)) 0 0 (fr G) := by
  refine r_start (cc := cX9_seesCell) (maxL := 6) (ret := (some .int)) (by decide) rfl (Nat.le_of_ble_eq_true rfl) ?_
  intro pz ez sz mz below meth cz ls CF hr hlk hK hH hS hl
  have CF : CallFix pz mz cz cX9_seesCell 6 sz (List.toArray [.ref (G.2.1 29), .int x, .int p, .int y, .int z]) wsX9_seesCell RX9 := CF
  have hx := CF.1
  have hb := CF.2.1
  have hown := CF.2.2.2.1
  have hts := CF.2.2.2.2
  have hl : lv_has ls 6 [(0, .ref (G.2.1 29)), (1, .int x), (2, .int p), (3, .int y), (4, .int z)] := hl
  have K1 := hts _ (List.mem_of_getElem? (i := 1) rfl)
  have JX9 : ∀ w ∈ wsX90, w ∈ wsX9_seesCell := in_r _ [51, 52, 53, 54, 55, 56, 57, 58, 59, 60, 61, 62, 63, 64, 65, 66, 67, 68, 69, 70] (by decide +kernel)
  obtain ⟨hR, hC, hR3, hR10, hC4, hC16, hM⟩ := hA
  have hn := hM.1
  have hn8 := hM.2.1
  refine lv_aload_n hx hb dX9_seesCell_0 rfl (lv_at hl 0 rfl) ?_
  refine lv_iload_n hx hb dX9_seesCell_1 rfl (lv_at hl 1 rfl) ?_
  refine lv_iload_n hx hb dX9_seesCell_2 rfl (lv_at hl 2 rfl) ?_
  refine r_cR hS (r_runV (n := 2) (As := [.int x, .int p]) (rest := []) CF hK hH (c_X9_checkPhoto l G σ n sq hM x p) gX9_seesCell_X9_checkPhoto rfl rfl rfl rfl (by decide +kernel) ⟨⟨Nat.le_of_ble_eq_true rfl, Nat.le_of_ble_eq_true rfl⟩, Nat.le_of_ble_eq_true rfl, Nat.le_of_ble_eq_true rfl⟩ 29 rfl (Nat.le_of_ble_eq_true rfl) rfl rfl rfl hl.1 rfl (Nat.le_of_ble_eq_true rfl) dX9_seesCell_3) (fun H locs hH hS => ?_)
  refine lv_istore (lv' := [(5, .int (cpF n sq x p)), (0, .ref (G.2.1 29)), (1, .int x), (2, .int p), (3, .int y), (4, .int z)]) hx hb dX9_seesCell_6 hl (by decide) rfl (fun ls hl => ?_)
  refine lv_iload hx hb dX9_seesCell_8 (lv_at hl 0 rfl) ?_
  refine lv_if_ge (tgt := 16) hx hb dX9_seesCell_10 (by decide) (fun c10 => ?_) (fun c10 => ?_)
  · obtain ⟨i, k, hi, hk, ei, ek, eiN, ekN, hin1, hin2, hk16⟩ := cp_ok hn8 (fun i hi => (hM.2.2 i hi).2.2.2.2) c10
    refine lv_aload_n hx hb dX9_seesCell_16 rfl (lv_at hl 1 rfl) ?_
    refine lv_iload_n hx hb dX9_seesCell_17 rfl (lv_at hl 4 rfl) ?_
    refine lv_iload hx hb dX9_seesCell_18 (lv_at hl 5 rfl) ?_
    refine r_cR hS (r_runV (n := 2) (As := [.int y, .int z]) (rest := []) CF hK hH (c_X9_isCell l G σ R C n sq ⟨hR, hC, hR3, hR10, hC4, hC16, hM⟩ y z) gX9_seesCell_X9_isCell rfl rfl rfl rfl (by decide +kernel) ⟨⟨Nat.le_of_ble_eq_true rfl, Nat.le_of_ble_eq_true rfl⟩, Nat.le_of_ble_eq_true rfl, Nat.le_of_ble_eq_true rfl⟩ 29 rfl (Nat.le_of_ble_eq_true rfl) rfl rfl rfl hl.1 rfl (Nat.le_of_ble_eq_true rfl) dX9_seesCell_20) (fun H locs hH hS => ?_)
    refine r_ifneB (tgt := 28) hx hb dX9_seesCell_23 (by decide) (fun c23 => ?_) (fun c23 => ?_)
    · obtain ⟨r, c, hr1, hc1, ex, ey, exN, eyN⟩ := inC_of c23 hR10 hC16
      have hq := (hM.2.2 i hi).2.2.2.2
      have hcol := ph_col hq hk
      refine lv_aload_n hx hb dX9_seesCell_28 rfl (lv_at hl 1 rfl) ?_
      refine lv_aload_n hx hb dX9_seesCell_29 rfl (lv_at hl 1 rfl) ?_
      refine r_get CF hK hH 29 (Nat.le_of_ble_eq_true rfl) rfl rfl JX9 11 (by decide) K1 rfl dX9_seesCell_30 ?_
      refine lv_iload_n hx hb dX9_seesCell_33 rfl (lv_at hl 2 rfl) ?_
      refine r_top (show (x : Int32) = nI i from ei) ?_
      refine r_iald CF hK hH 31 (Nat.le_of_ble_eq_true rfl) rfl (Nat.le_of_ble_eq_true rfl) i rfl (by omega) dX9_seesCell_34 ?_
      refine r_top (show (σ 31 i : Int32) = nI (sq i).1 from (hM.2.2 i hi).1) ?_
      refine lv_aload_n hx hb dX9_seesCell_35 rfl (lv_at hl 1 rfl) ?_
      refine lv_iload_n hx hb dX9_seesCell_36 rfl (lv_at hl 2 rfl) ?_
      refine r_top (show (x : Int32) = nI i from ei) ?_
      refine lv_iload_n hx hb dX9_seesCell_37 rfl (lv_at hl 3 rfl) ?_
      refine r_top (show (p : Int32) = nI k from ek) ?_
      refine r_cR hS (r_runV (n := 2) (As := [.int (nI i), .int (nI k)]) (rest := [.int (nI (sq i).1), .ref (G.2.1 29)]) CF hK hH (c_X9_columnOf l G σ n sq hM i (by omega) k) gX9_seesCell_X9_columnOf rfl rfl rfl rfl (by decide +kernel) ⟨⟨Nat.le_of_ble_eq_true rfl, Nat.le_of_ble_eq_true rfl⟩, Nat.le_of_ble_eq_true rfl, Nat.le_of_ble_eq_true rfl⟩ 29 rfl (Nat.le_of_ble_eq_true rfl) rfl rfl rfl hl.1 rfl (Nat.le_of_ble_eq_true rfl) dX9_seesCell_38) (fun H locs hH hS => ?_)
      refine lv_iload_n hx hb dX9_seesCell_41 rfl (lv_at hl 4 rfl) ?_
      refine r_top (show (y : Int32) = nI r from ex) ?_
      refine lv_iload hx hb dX9_seesCell_42 (lv_at hl 5 rfl) ?_
      refine r_top (show (z : Int32) = nI c from ey) ?_
      refine r_cR hS (r_runV (n := 4) (As := [.int (nI (sq i).1), .int (nI ((sq i).2.1 + k * (sq i).2.2.2)), .int (nI r), .int (nI c)]) (rest := []) CF hK hH (c_X9_sees l G σ (sq i).1 ((sq i).2.1 + k * (sq i).2.2.2) r c hq.1 (by have := hq.2.2.1; omega) (by omega) (by omega)) gX9_seesCell_X9_sees rfl rfl rfl rfl (by decide +kernel) ⟨⟨Nat.le_of_ble_eq_true rfl, Nat.le_of_ble_eq_true rfl⟩, Nat.le_of_ble_eq_true rfl, Nat.le_of_ble_eq_true rfl⟩ 29 rfl (Nat.le_of_ble_eq_true rfl) rfl rfl rfl hl.1 rfl (Nat.le_of_ble_eq_true rfl) dX9_seesCell_44) (fun H locs hH hS => ?_)
      refine r_ifeqB (tgt := 54) hx hb dX9_seesCell_47 (by decide) (fun c47 => ?_) (fun c47 => ?_)
      · refine lv_iconst (v := 0) hx hb dX9_seesCell_54 (by decide) ?_
        exact r_iret CF hr hlk hH hS dX9_seesCell_55 ⟨by simp [aSee, hin1, eiN, ekN, hin2, c23, exN, eyN, psF, c47, b2i], rfl⟩
      · refine lv_iconst (v := 1) hx hb dX9_seesCell_50 (by decide) ?_
        refine lv_goto (tgt := 55) hx hb dX9_seesCell_51 (by decide) ?_
        exact r_iret CF hr hlk hH hS dX9_seesCell_55 ⟨by simp [aSee, hin1, eiN, ekN, hin2, c23, exN, eyN, psF, c47, b2i], rfl⟩
    · refine lv_iconst (v := (-1)) hx hb dX9_seesCell_26 (by decide) ?_
      exact r_iret CF hr hlk hH hS dX9_seesCell_27 ⟨by simp [aSee, hin1, eiN, hin2, c23], rfl⟩
  · refine lv_iload hx hb dX9_seesCell_13 (lv_at hl 0 rfl) ?_
    exact r_iret CF hr hlk hH hS dX9_seesCell_15 ⟨(by unfold aSee; exact cp_neg c10 _), rfl⟩

set_option maxRecDepth 100000 in
set_option maxHeartbeats 4000000 in
theorem c_X9_footprint (l : Launch) (G : Gm) (σ : Sg) (R C n : Nat) (sq : Nat → S4) (hA : MA σ R C n sq) (i p : Nat) (hi : i < n) (hp : p < phF (sq i)) : Met l yX9_footprint wsX9_footprint (rmO 4 103) (PP G [.ref (G.2.1 29), .int (nI i), .int (nI p)] σ) (QI G (RV (nI (cnt (fpP (σ 30) (cmM σ) (sq i) p C) (R * C))) σ)) 0 0 (fr G) := by
  refine r_start (cc := cX9_footprint) (maxL := 5) (ret := (some .int)) (by decide) rfl (Nat.le_of_ble_eq_true rfl) ?_
  intro pz ez sz mz below meth cz ls CF hr hlk hK hH hS hl
  have CF : CallFix pz mz cz cX9_footprint 5 sz (List.toArray [.ref (G.2.1 29), .int (nI i), .int (nI p)]) wsX9_footprint RX9 := CF
  have hx := CF.1
  have hb := CF.2.1
  have hown := CF.2.2.2.1
  have hts := CF.2.2.2.2
  have hl : lv_has ls 5 [(0, .ref (G.2.1 29)), (1, .int (nI i)), (2, .int (nI p))] := hl
  have K1 := hts _ (List.mem_of_getElem? (i := 1) rfl)
  have K2 := hts _ (List.mem_of_getElem? (i := 2) rfl)
  have JX9 : ∀ w ∈ wsX90, w ∈ wsX9_footprint := in_r _ [34, 35, 36, 37, 38, 39, 40, 41, 42, 43, 44, 45, 46, 47, 48, 49, 50, 51, 52, 53] (by decide +kernel)
  obtain ⟨hR, hC, hR3, hR10, hC4, hC16, hM⟩ := hA
  have hn := hM.1
  have hn8 := hM.2.1
  have hRC := RC_le hR10 hC16
  refine lv_iconst (v := 0) hx hb dX9_footprint_0 (by decide) ?_
  refine lv_istore_n (lv' := [(3, .int (0 : Int32)), (0, .ref (G.2.1 29)), (1, .int (nI i)), (2, .int (nI p))]) hx hb dX9_footprint_1 rfl hl (by decide) rfl (fun ls hl => ?_)
  refine lv_iconst (v := 0) hx hb dX9_footprint_2 (by decide) ?_
  refine lv_istore (lv' := [(4, .int (0 : Int32)), (3, .int (0 : Int32)), (0, .ref (G.2.1 29)), (1, .int (nI i)), (2, .int (nI p))]) hx hb dX9_footprint_3 hl (by decide) rfl (fun ls hl => ?_)
  have lp5 : ∀ (fu : Nat) (z : Nat) (x3 : Int32) (H : Heap) (locs : List Loc) (ls : Array Slot), (R * C + 1 ≤ z + fu) → (z ≤ R * C) → (x3 = nI (cnt (fpP (σ 30) (cmM σ) (sq i) p C) z)) → Hp G σ H → va_S (fr G) sz.heap H locs → lv_has ls 5 [(0, .ref (G.2.1 29)), (1, .int (nI i)), (2, .int (nI p)), (3, .int x3), (4, .int (nI z))] → W pz l ez (rmO 4 103) sz mz (List.toArray [.ref (G.2.1 29), .int (nI i), .int (nI p)]) below meth cz H locs 0 0 (MQ below (QI G (RV (nI (cnt (fpP (σ 30) (cmM σ) (sq i) p C) (R * C))) σ)) (List.toArray [.ref (G.2.1 29), .int (nI i), .int (nI p)]) sz 0 0 (fr G)) (F0 mz 5 ls []) := by
    intro fu
    induction fu with
    | zero => intros; omega
    | succ fu ih5 =>
      intro z x3 H locs ls hf hzl hz hH hS hl
      refine lv_iload hx hb dX9_footprint_5 (lv_at hl 4 rfl) ?_
      refine lv_aload_n hx hb dX9_footprint_7 rfl (lv_at hl 0 rfl) ?_
      refine r_get CF hK hH 29 (Nat.le_of_ble_eq_true rfl) rfl rfl JX9 0 (by decide) K1 rfl dX9_footprint_8 ?_
      refine r_top (show (σ 29 0 : Int32) = nI R from hR) ?_
      refine lv_aload_n hx hb dX9_footprint_11 rfl (lv_at hl 0 rfl) ?_
      refine r_get CF hK hH 29 (Nat.le_of_ble_eq_true rfl) rfl rfl JX9 1 (by decide) K2 rfl dX9_footprint_12 ?_
      refine r_top (show (σ 29 1 : Int32) = nI C from hC) ?_
      refine lv_imul hx hb dX9_footprint_15 ?_
      refine r_top (show (((nI R) * (nI C)) : Int32) = nI (R * C) from pk_mul R C) ?_
      refine lv_icmp_ge (tgt := 44) hx hb dX9_footprint_16 (by decide) (fun c16 => ?_) (fun c16 => ?_)
      · have c16 : (R * C) ≤ z := (nI_leI (a := (R * C)) (b := z) (by omega) (by omega)).mp c16
        refine lv_iload_n hx hb dX9_footprint_44 rfl (lv_at hl 3 rfl) ?_
        exact r_iret CF hr hlk hH hS dX9_footprint_45 ⟨by have e : z = R * C := (by omega); rw [hz, e], rfl⟩
      · have c16 : z < (R * C) := Nat.lt_of_not_le (fun zq => c16 ((nI_leI (a := (R * C)) (b := z) (by omega) (by omega)).mpr zq))
        refine lv_iload_n hx hb dX9_footprint_19 rfl (lv_at hl 3 rfl) ?_
        refine lv_aload_n hx hb dX9_footprint_20 rfl (lv_at hl 0 rfl) ?_
        refine lv_iload_n hx hb dX9_footprint_21 rfl (lv_at hl 1 rfl) ?_
        refine lv_iload_n hx hb dX9_footprint_22 rfl (lv_at hl 2 rfl) ?_
        refine lv_iload hx hb dX9_footprint_23 (lv_at hl 4 rfl) ?_
        refine r_cR hS (r_runV (n := 3) (As := [.int (nI i), .int (nI p), .int (nI z)]) (rest := [.int x3]) CF hK hH (c_X9_photoSees l G σ R C n sq ⟨hR, hC, hR3, hR10, hC4, hC16, hM⟩ i p z (by omega) (by omega) (by omega)) gX9_footprint_X9_photoSees rfl rfl rfl rfl (by decide +kernel) ⟨⟨Nat.le_of_ble_eq_true rfl, Nat.le_of_ble_eq_true rfl⟩, Nat.le_of_ble_eq_true rfl, Nat.le_of_ble_eq_true rfl⟩ 29 rfl (Nat.le_of_ble_eq_true rfl) rfl rfl rfl hl.1 rfl (Nat.le_of_ble_eq_true rfl) dX9_footprint_25) (fun H locs hH hS => ?_)
        refine r_ifeqB (tgt := 35) hx hb dX9_footprint_28 (by decide) (fun c28 => ?_) (fun c28 => ?_)
        · refine lv_iconst (v := 0) hx hb dX9_footprint_35 (by decide) ?_
          refine lv_iadd hx hb dX9_footprint_36 ?_
          refine lv_istore_n (lv' := [(3, .int (x3 + (0 : Int32))), (0, .ref (G.2.1 29)), (1, .int (nI i)), (2, .int (nI p)), (4, .int (nI z))]) hx hb dX9_footprint_37 rfl hl (by decide) rfl (fun ls hl => ?_)
          refine lv_iinc (v := nI (z + 1)) (lv' := [(4, .int (nI (z + 1))), (3, .int (x3 + (0 : Int32))), (0, .ref (G.2.1 29)), (1, .int (nI i)), (2, .int (nI p))]) hx hb dX9_footprint_38 hl (k := 4) rfl (nI_1 _) (by decide) rfl (fun ls hl => ?_)
          refine lv_goto (tgt := 5) hx hb dX9_footprint_41 (by decide) ?_
          exact ih5 (z + 1) (x3 + (0 : Int32)) _ _ ls (by omega) (by omega) (by rw [cnt_f (p := fpP (σ 30) (cmM σ) (sq i) p C) c28, hz]; simp) hH hS (lv_sub hl [2, 3, 4, 1, 0] rfl)
        · refine lv_iconst (v := 1) hx hb dX9_footprint_31 (by decide) ?_
          refine lv_goto (tgt := 36) hx hb dX9_footprint_32 (by decide) ?_
          refine lv_iadd hx hb dX9_footprint_36 ?_
          refine lv_istore_n (lv' := [(3, .int (x3 + (1 : Int32))), (0, .ref (G.2.1 29)), (1, .int (nI i)), (2, .int (nI p)), (4, .int (nI z))]) hx hb dX9_footprint_37 rfl hl (by decide) rfl (fun ls hl => ?_)
          refine lv_iinc (v := nI (z + 1)) (lv' := [(4, .int (nI (z + 1))), (3, .int (x3 + (1 : Int32))), (0, .ref (G.2.1 29)), (1, .int (nI i)), (2, .int (nI p))]) hx hb dX9_footprint_38 hl (k := 4) rfl (nI_1 _) (by decide) rfl (fun ls hl => ?_)
          refine lv_goto (tgt := 5) hx hb dX9_footprint_41 (by decide) ?_
          exact ih5 (z + 1) (x3 + (1 : Int32)) _ _ ls (by omega) (by omega) (cntT (p := fpP (σ 30) (cmM σ) (sq i) p C) c28 hz) hH hS (lv_sub hl [2, 3, 4, 1, 0] rfl)
  exact lp5 (R * C + 1) 0 (0 : Int32) _ _ ls (by omega) (by omega) rfl hH hS (lv_sub hl [2, 3, 4, 1, 0] rfl)

set_option maxRecDepth 100000 in
set_option maxHeartbeats 4000000 in
theorem c_X9_footprintSize (l : Launch) (G : Gm) (σ : Sg) (R C n : Nat) (sq : Nat → S4) (hA : MA σ R C n sq) (x p : Int32) : Met l yX9_footprintSize wsX9_footprintSize (rmO 5 127) (PP G [.ref (G.2.1 29), .int x, .int p] σ) (QI G (RV (aFoot R C (σ 30) (cmM σ) n sq x p) σ)) 0 0 (fr G) := by
  refine r_start (cc := cX9_footprintSize) (maxL := 4) (ret := (some .int)) (by decide) rfl (Nat.le_of_ble_eq_true rfl) ?_
  intro pz ez sz mz below meth cz ls CF hr hlk hK hH hS hl
  have CF : CallFix pz mz cz cX9_footprintSize 4 sz (List.toArray [.ref (G.2.1 29), .int x, .int p]) wsX9_footprintSize RX9 := CF
  have hx := CF.1
  have hb := CF.2.1
  have hown := CF.2.2.2.1
  have hts := CF.2.2.2.2
  have hl : lv_has ls 4 [(0, .ref (G.2.1 29)), (1, .int x), (2, .int p)] := hl
  obtain ⟨hR, hC, hR3, hR10, hC4, hC16, hM⟩ := hA
  have hn := hM.1
  have hn8 := hM.2.1
  refine lv_aload_n hx hb dX9_footprintSize_0 rfl (lv_at hl 0 rfl) ?_
  refine lv_iload_n hx hb dX9_footprintSize_1 rfl (lv_at hl 1 rfl) ?_
  refine lv_iload_n hx hb dX9_footprintSize_2 rfl (lv_at hl 2 rfl) ?_
  refine r_cR hS (r_runV (n := 2) (As := [.int x, .int p]) (rest := []) CF hK hH (c_X9_checkPhoto l G σ n sq hM x p) gX9_footprintSize_X9_checkPhoto rfl rfl rfl rfl (by decide +kernel) ⟨⟨Nat.le_of_ble_eq_true rfl, Nat.le_of_ble_eq_true rfl⟩, Nat.le_of_ble_eq_true rfl, Nat.le_of_ble_eq_true rfl⟩ 29 rfl (Nat.le_of_ble_eq_true rfl) rfl rfl rfl hl.1 rfl (Nat.le_of_ble_eq_true rfl) dX9_footprintSize_3) (fun H locs hH hS => ?_)
  refine lv_istore_n (lv' := [(3, .int (cpF n sq x p)), (0, .ref (G.2.1 29)), (1, .int x), (2, .int p)]) hx hb dX9_footprintSize_6 rfl hl (by decide) rfl (fun ls hl => ?_)
  refine lv_iload_n hx hb dX9_footprintSize_7 rfl (lv_at hl 0 rfl) ?_
  refine lv_if_ge (tgt := 15) hx hb dX9_footprintSize_8 (by decide) (fun c8 => ?_) (fun c8 => ?_)
  · obtain ⟨i, k, hi, hk, ei, ek, eiN, ekN, hin1, hin2, hk16⟩ := cp_ok hn8 (fun i hi => (hM.2.2 i hi).2.2.2.2) c8
    refine lv_aload_n hx hb dX9_footprintSize_15 rfl (lv_at hl 1 rfl) ?_
    refine lv_iload_n hx hb dX9_footprintSize_16 rfl (lv_at hl 2 rfl) ?_
    refine r_top (show (x : Int32) = nI i from ei) ?_
    refine lv_iload_n hx hb dX9_footprintSize_17 rfl (lv_at hl 3 rfl) ?_
    refine r_top (show (p : Int32) = nI k from ek) ?_
    refine r_cR hS (r_runV (n := 2) (As := [.int (nI i), .int (nI k)]) (rest := []) CF hK hH (c_X9_footprint l G σ R C n sq ⟨hR, hC, hR3, hR10, hC4, hC16, hM⟩ i k (by omega) (by omega)) gX9_footprintSize_X9_footprint rfl rfl rfl rfl (by decide +kernel) ⟨⟨Nat.le_of_ble_eq_true rfl, Nat.le_of_ble_eq_true rfl⟩, Nat.le_of_ble_eq_true rfl, Nat.le_of_ble_eq_true rfl⟩ 29 rfl (Nat.le_of_ble_eq_true rfl) rfl rfl rfl hl.1 rfl (Nat.le_of_ble_eq_true rfl) dX9_footprintSize_18) (fun H locs hH hS => ?_)
    exact r_iret CF hr hlk hH hS dX9_footprintSize_21 ⟨by simp [aFoot, hin1, eiN, ekN, hin2], rfl⟩
  · refine lv_iload_n hx hb dX9_footprintSize_11 rfl (lv_at hl 0 rfl) ?_
    refine lv_goto (tgt := 21) hx hb dX9_footprintSize_12 (by decide) ?_
    exact r_iret CF hr hlk hH hS dX9_footprintSize_21 ⟨(by unfold aFoot; exact cp_neg c8 _), rfl⟩

set_option maxRecDepth 100000 in
set_option maxHeartbeats 4000000 in
theorem c_X9_coverageOf (l : Launch) (G : Gm) (σ : Sg) (R C n : Nat) (sq : Nat → S4) (hA : MA σ R C n sq) (z : Nat) (hz : z < R * C) : Met l yX9_coverageOf wsX9_coverageOf (rmO 4 103) (PP G [.ref (G.2.1 29), .int (nI z)] σ) (QI G (RV (nI (covF (σ 30) (cmM σ) sq (z / C) (z % C) n)) σ)) 0 0 (fr G) := by
  refine r_start (cc := cX9_coverageOf) (maxL := 5) (ret := (some .int)) (by decide) rfl (Nat.le_of_ble_eq_true rfl) ?_
  intro pz ez sz mz below meth cz ls CF hr hlk hK hH hS hl
  have CF : CallFix pz mz cz cX9_coverageOf 5 sz (List.toArray [.ref (G.2.1 29), .int (nI z)]) wsX9_coverageOf RX9 := CF
  have hx := CF.1
  have hb := CF.2.1
  have hown := CF.2.2.2.1
  have hts := CF.2.2.2.2
  have hl : lv_has ls 5 [(0, .ref (G.2.1 29)), (1, .int (nI z))] := hl
  have K1 := hts _ (List.mem_of_getElem? (i := 1) rfl)
  have JX9 : ∀ w ∈ wsX90, w ∈ wsX9_coverageOf := in_r _ [39, 40, 41, 42, 43, 44, 45, 46, 47, 48, 49, 50, 51, 52, 53, 54, 55, 56, 57, 58] (by decide +kernel)
  obtain ⟨hR, hC, hR3, hR10, hC4, hC16, hM⟩ := hA
  have hn := hM.1
  have hn8 := hM.2.1
  refine lv_iconst (v := 0) hx hb dX9_coverageOf_0 (by decide) ?_
  refine lv_istore_n (lv' := [(2, .int (0 : Int32)), (0, .ref (G.2.1 29)), (1, .int (nI z))]) hx hb dX9_coverageOf_1 rfl hl (by decide) rfl (fun ls hl => ?_)
  refine lv_iconst (v := 0) hx hb dX9_coverageOf_2 (by decide) ?_
  refine lv_istore_n (lv' := [(3, .int (0 : Int32)), (2, .int (0 : Int32)), (0, .ref (G.2.1 29)), (1, .int (nI z))]) hx hb dX9_coverageOf_3 rfl hl (by decide) rfl (fun ls hl => ?_)
  have lp4 : ∀ (fu : Nat) (i : Nat) (x2 : Int32) (H : Heap) (locs : List Loc) (ls : Array Slot), (n + 1 ≤ i + fu) → (i ≤ n) → (x2 = nI (covF (σ 30) (cmM σ) sq (z / C) (z % C) i)) → Hp G σ H → va_S (fr G) sz.heap H locs → lv_has ls 5 [(0, .ref (G.2.1 29)), (1, .int (nI z)), (2, .int x2), (3, .int (nI i))] → W pz l ez (rmO 4 103) sz mz (List.toArray [.ref (G.2.1 29), .int (nI z)]) below meth cz H locs 0 0 (MQ below (QI G (RV (nI (covF (σ 30) (cmM σ) sq (z / C) (z % C) n)) σ)) (List.toArray [.ref (G.2.1 29), .int (nI z)]) sz 0 0 (fr G)) (F0 mz 4 ls []) := by
    intro fu
    induction fu with
    | zero => intros; omega
    | succ fu ih4 =>
      intro i x2 H locs ls hf hi h2 hH hS hl
      refine lv_iload_n hx hb dX9_coverageOf_4 rfl (lv_at hl 3 rfl) ?_
      refine lv_aload_n hx hb dX9_coverageOf_5 rfl (lv_at hl 0 rfl) ?_
      refine r_get CF hK hH 29 (Nat.le_of_ble_eq_true rfl) rfl rfl JX9 10 (by decide) K1 rfl dX9_coverageOf_6 ?_
      refine r_top (show (σ 29 10 : Int32) = nI n from hn) ?_
      refine lv_icmp_ge (tgt := 56) hx hb dX9_coverageOf_9 (by decide) (fun c9 => ?_) (fun c9 => ?_)
      · have c9 : n ≤ i := (nI_leI (a := n) (b := i) (by omega) (by omega)).mp c9
        refine lv_iload_n hx hb dX9_coverageOf_56 rfl (lv_at hl 2 rfl) ?_
        exact r_iret CF hr hlk hH hS dX9_coverageOf_57 ⟨by have e : i = n := (by omega); rw [h2, e], rfl⟩
      · have c9 : i < n := Nat.lt_of_not_le (fun zq => c9 ((nI_leI (a := n) (b := i) (by omega) (by omega)).mpr zq))
        have hph := phF_le (hM.2.2 i c9).2.2.2.2
        refine lv_iconst (v := 0) hx hb dX9_coverageOf_12 (by decide) ?_
        refine lv_istore (lv' := [(4, .int (0 : Int32)), (0, .ref (G.2.1 29)), (1, .int (nI z)), (2, .int x2), (3, .int (nI i))]) hx hb dX9_coverageOf_13 hl (by decide) rfl (fun ls hl => ?_)
        have lp15 : ∀ (fv : Nat) (p : Nat) (y2 : Int32) (H : Heap) (locs : List Loc) (ls : Array Slot), (phF (sq i) + 1 ≤ p + fv) → (p ≤ phF (sq i)) → (y2 = nI (covF (σ 30) (cmM σ) sq (z / C) (z % C) i + cnt (fun p => psF (σ 30) (cmM σ) (sq i) p (z / C) (z % C)) p)) → Hp G σ H → va_S (fr G) sz.heap H locs → lv_has ls 5 [(0, .ref (G.2.1 29)), (1, .int (nI z)), (2, .int y2), (3, .int (nI i)), (4, .int (nI p))] → W pz l ez (rmO 4 103) sz mz (List.toArray [.ref (G.2.1 29), .int (nI z)]) below meth cz H locs 0 0 (MQ below (QI G (RV (nI (covF (σ 30) (cmM σ) sq (z / C) (z % C) n)) σ)) (List.toArray [.ref (G.2.1 29), .int (nI z)]) sz 0 0 (fr G)) (F0 mz 15 ls []) := by
          intro fv
          induction fv with
          | zero => intros; omega
          | succ fv ih15 =>
            intro p y2 H locs ls hg hp h2' hH hS hl
            refine lv_iload hx hb dX9_coverageOf_15 (lv_at hl 4 rfl) ?_
            refine lv_aload_n hx hb dX9_coverageOf_17 rfl (lv_at hl 0 rfl) ?_
            refine lv_iload_n hx hb dX9_coverageOf_18 rfl (lv_at hl 3 rfl) ?_
            refine r_cR hS (r_runV (n := 1) (As := [.int (nI i)]) (rest := [.int (nI p)]) CF hK hH (c_X9_photosOf l G σ n sq hM i (by omega)) gX9_coverageOf_X9_photosOf rfl rfl rfl rfl (by decide +kernel) ⟨⟨Nat.le_of_ble_eq_true rfl, Nat.le_of_ble_eq_true rfl⟩, Nat.le_of_ble_eq_true rfl, Nat.le_of_ble_eq_true rfl⟩ 29 rfl (Nat.le_of_ble_eq_true rfl) rfl rfl rfl hl.1 rfl (Nat.le_of_ble_eq_true rfl) dX9_coverageOf_19) (fun H locs hH hS => ?_)
            refine lv_icmp_ge (tgt := 50) hx hb dX9_coverageOf_22 (by decide) (fun c22 => ?_) (fun c22 => ?_)
            · have c22 : (phF (sq i)) ≤ p := (nI_leI (a := (phF (sq i))) (b := p) (by omega) (by omega)).mp c22
              refine lv_iinc (v := nI (i + 1)) (lv' := [(3, .int (nI (i + 1))), (0, .ref (G.2.1 29)), (1, .int (nI z)), (2, .int y2), (4, .int (nI p))]) hx hb dX9_coverageOf_50 hl (k := 3) rfl (nI_1 _) (by decide) rfl (fun ls hl => ?_)
              refine lv_goto (tgt := 4) hx hb dX9_coverageOf_53 (by decide) ?_
              exact ih4 (i + 1) y2 _ _ ls (by omega) (by omega) (by rw [h2']; have e : p = phF (sq i) := (by omega); rw [e]; rfl) hH hS (lv_sub hl [1, 2, 3, 0] rfl)
            · have c22 : p < (phF (sq i)) := Nat.lt_of_not_le (fun zq => c22 ((nI_leI (a := (phF (sq i))) (b := p) (by omega) (by omega)).mpr zq))
              refine lv_iload_n hx hb dX9_coverageOf_25 rfl (lv_at hl 2 rfl) ?_
              refine lv_aload_n hx hb dX9_coverageOf_26 rfl (lv_at hl 0 rfl) ?_
              refine lv_iload_n hx hb dX9_coverageOf_27 rfl (lv_at hl 3 rfl) ?_
              refine lv_iload hx hb dX9_coverageOf_28 (lv_at hl 4 rfl) ?_
              refine lv_iload_n hx hb dX9_coverageOf_30 rfl (lv_at hl 1 rfl) ?_
              refine r_cR hS (r_runV (n := 3) (As := [.int (nI i), .int (nI p), .int (nI z)]) (rest := [.int y2]) CF hK hH (c_X9_photoSees l G σ R C n sq ⟨hR, hC, hR3, hR10, hC4, hC16, hM⟩ i p z (by omega) (by omega) (by omega)) gX9_coverageOf_X9_photoSees rfl rfl rfl rfl (by decide +kernel) ⟨⟨Nat.le_of_ble_eq_true rfl, Nat.le_of_ble_eq_true rfl⟩, Nat.le_of_ble_eq_true rfl, Nat.le_of_ble_eq_true rfl⟩ 29 rfl (Nat.le_of_ble_eq_true rfl) rfl rfl rfl hl.1 rfl (Nat.le_of_ble_eq_true rfl) dX9_coverageOf_31) (fun H locs hH hS => ?_)
              refine r_ifeqB (tgt := 41) hx hb dX9_coverageOf_34 (by decide) (fun c34 => ?_) (fun c34 => ?_)
              · refine lv_iconst (v := 0) hx hb dX9_coverageOf_41 (by decide) ?_
                refine lv_iadd hx hb dX9_coverageOf_42 ?_
                refine lv_istore_n (lv' := [(2, .int (y2 + (0 : Int32))), (0, .ref (G.2.1 29)), (1, .int (nI z)), (3, .int (nI i)), (4, .int (nI p))]) hx hb dX9_coverageOf_43 rfl hl (by decide) rfl (fun ls hl => ?_)
                refine lv_iinc (v := nI (p + 1)) (lv' := [(4, .int (nI (p + 1))), (2, .int (y2 + (0 : Int32))), (0, .ref (G.2.1 29)), (1, .int (nI z)), (3, .int (nI i))]) hx hb dX9_coverageOf_44 hl (k := 4) rfl (nI_1 _) (by decide) rfl (fun ls hl => ?_)
                refine lv_goto (tgt := 15) hx hb dX9_coverageOf_47 (by decide) ?_
                exact ih15 (p + 1) (y2 + (0 : Int32)) _ _ ls (by omega) (by omega) (by rw [cnt_f (p := fun p => psF (σ 30) (cmM σ) (sq i) p (z / C) (z % C)) c34, h2']; simp) hH hS (lv_sub hl [2, 3, 1, 4, 0] rfl)
              · refine lv_iconst (v := 1) hx hb dX9_coverageOf_37 (by decide) ?_
                refine lv_goto (tgt := 42) hx hb dX9_coverageOf_38 (by decide) ?_
                refine lv_iadd hx hb dX9_coverageOf_42 ?_
                refine lv_istore_n (lv' := [(2, .int (y2 + (1 : Int32))), (0, .ref (G.2.1 29)), (1, .int (nI z)), (3, .int (nI i)), (4, .int (nI p))]) hx hb dX9_coverageOf_43 rfl hl (by decide) rfl (fun ls hl => ?_)
                refine lv_iinc (v := nI (p + 1)) (lv' := [(4, .int (nI (p + 1))), (2, .int (y2 + (1 : Int32))), (0, .ref (G.2.1 29)), (1, .int (nI z)), (3, .int (nI i))]) hx hb dX9_coverageOf_44 hl (k := 4) rfl (nI_1 _) (by decide) rfl (fun ls hl => ?_)
                refine lv_goto (tgt := 15) hx hb dX9_coverageOf_47 (by decide) ?_
                exact ih15 (p + 1) (y2 + (1 : Int32)) _ _ ls (by omega) (by omega) (by rw [cnt_t (p := fun p => psF (σ 30) (cmM σ) (sq i) p (z / C) (z % C)) c34, h2']; exact nI_1 _) hH hS (lv_sub hl [2, 3, 1, 4, 0] rfl)
        exact lp15 (phF (sq i) + 1) 0 x2 _ _ ls (by omega) (by omega) h2 hH hS (lv_sub hl [1, 2, 3, 4, 0] rfl)
  exact lp4 (n + 1) 0 (0 : Int32) _ _ ls (by omega) (by omega) rfl hH hS (lv_sub hl [2, 3, 1, 0] rfl)

set_option maxRecDepth 100000 in
set_option maxHeartbeats 4000000 in
theorem c_X9_coverage (l : Launch) (G : Gm) (σ : Sg) (R C n : Nat) (sq : Nat → S4) (hA : MA σ R C n sq) (x y : Int32) : Met l yX9_coverage wsX9_coverage (rmO 5 127) (PP G [.ref (G.2.1 29), .int x, .int y] σ) (QI G (RV (aCov R C (σ 30) (cmM σ) n sq x y) σ)) 0 0 (fr G) := by
  refine r_start (cc := cX9_coverage) (maxL := 3) (ret := (some .int)) (by decide) rfl (Nat.le_of_ble_eq_true rfl) ?_
  intro pz ez sz mz below meth cz ls CF hr hlk hK hH hS hl
  have CF : CallFix pz mz cz cX9_coverage 3 sz (List.toArray [.ref (G.2.1 29), .int x, .int y]) wsX9_coverage RX9 := CF
  have hx := CF.1
  have hb := CF.2.1
  have hown := CF.2.2.2.1
  have hts := CF.2.2.2.2
  have hl : lv_has ls 3 [(0, .ref (G.2.1 29)), (1, .int x), (2, .int y)] := hl
  have K1 := hts _ (List.mem_of_getElem? (i := 1) rfl)
  have JX9 : ∀ w ∈ wsX90, w ∈ wsX9_coverage := in_r _ [51, 52, 53, 54, 55, 56, 57, 58, 59, 60, 61, 62, 63, 64, 65, 66, 67, 68, 69, 70] (by decide +kernel)
  obtain ⟨hR, hC, hR3, hR10, hC4, hC16, hM⟩ := hA
  have hn := hM.1
  have hn8 := hM.2.1
  refine lv_aload_n hx hb dX9_coverage_0 rfl (lv_at hl 0 rfl) ?_
  refine lv_iload_n hx hb dX9_coverage_1 rfl (lv_at hl 1 rfl) ?_
  refine lv_iload_n hx hb dX9_coverage_2 rfl (lv_at hl 2 rfl) ?_
  refine r_cR hS (r_runV (n := 2) (As := [.int x, .int y]) (rest := []) CF hK hH (c_X9_isCell l G σ R C n sq ⟨hR, hC, hR3, hR10, hC4, hC16, hM⟩ x y) gX9_coverage_X9_isCell rfl rfl rfl rfl (by decide +kernel) ⟨⟨Nat.le_of_ble_eq_true rfl, Nat.le_of_ble_eq_true rfl⟩, Nat.le_of_ble_eq_true rfl, Nat.le_of_ble_eq_true rfl⟩ 29 rfl (Nat.le_of_ble_eq_true rfl) rfl rfl rfl hl.1 rfl (Nat.le_of_ble_eq_true rfl) dX9_coverage_3) (fun H locs hH hS => ?_)
  refine r_ifeqB (tgt := 24) hx hb dX9_coverage_6 (by decide) (fun c6 => ?_) (fun c6 => ?_)
  · refine lv_iconst (v := (-1)) hx hb dX9_coverage_24 (by decide) ?_
    exact r_iret CF hr hlk hH hS dX9_coverage_25 ⟨by simp [aCov, c6], rfl⟩
  · obtain ⟨r, c, hr1, hc1, ex, ey, exN, eyN⟩ := inC_of c6 hR10 hC16
    refine lv_aload_n hx hb dX9_coverage_9 rfl (lv_at hl 0 rfl) ?_
    refine lv_aload_n hx hb dX9_coverage_10 rfl (lv_at hl 0 rfl) ?_
    refine r_get CF hK hH 29 (Nat.le_of_ble_eq_true rfl) rfl rfl JX9 1 (by decide) K1 rfl dX9_coverage_11 ?_
    refine r_top (show (σ 29 1 : Int32) = nI C from hC) ?_
    refine lv_iload_n hx hb dX9_coverage_14 rfl (lv_at hl 1 rfl) ?_
    refine r_top (show (x : Int32) = nI r from ex) ?_
    refine lv_imul hx hb dX9_coverage_15 ?_
    refine lv_iload_n hx hb dX9_coverage_16 rfl (lv_at hl 2 rfl) ?_
    refine r_top (show (y : Int32) = nI c from ey) ?_
    refine lv_iadd hx hb dX9_coverage_17 ?_
    refine r_top (show ((((nI C) * (nI r)) + (nI c)) : Int32) = nI (r * C + c) from (by rw [pk_mul, nI_add, Nat.mul_comm])) ?_
    refine r_cR hS (r_runV (n := 1) (As := [.int (nI (r * C + c))]) (rest := []) CF hK hH (c_X9_coverageOf l G σ R C n sq ⟨hR, hC, hR3, hR10, hC4, hC16, hM⟩ (r * C + c) (lt_mul hr1 hc1)) gX9_coverage_X9_coverageOf rfl rfl rfl rfl (by decide +kernel) ⟨⟨Nat.le_of_ble_eq_true rfl, Nat.le_of_ble_eq_true rfl⟩, Nat.le_of_ble_eq_true rfl, Nat.le_of_ble_eq_true rfl⟩ 29 rfl (Nat.le_of_ble_eq_true rfl) rfl rfl rfl hl.1 rfl (Nat.le_of_ble_eq_true rfl) dX9_coverage_18) (fun H locs hH hS => ?_)
    refine lv_goto (tgt := 25) hx hb dX9_coverage_21 (by decide) ?_
    exact r_iret CF hr hlk hH hS dX9_coverage_25 ⟨by simp [aCov, c6, exN, eyN, dm1 hc1, dm2 hc1], rfl⟩

set_option maxRecDepth 100000 in
set_option maxHeartbeats 4000000 in
theorem c_X9_isRequired (l : Launch) (G : Gm) (σ : Sg) (x : Int32) : Met l yX9_isRequired wsX9_isRequired (rmO 1 22) (PP G [.int x] σ) (QI G (RV (b2i (isW x 1 9)) σ)) 0 0 (fr G) := by
  refine r_start (cc := cX9_isRequired) (maxL := 1) (ret := (some .boolean)) (by decide) rfl (Nat.le_of_ble_eq_true rfl) ?_
  intro pz ez sz mz below meth cz ls CF hr hlk hK hH hS hl
  have CF : CallFix pz mz cz cX9_isRequired 1 sz (List.toArray [.int x]) wsX9_isRequired RX9 := CF
  have hx := CF.1
  have hb := CF.2.1
  have hown := CF.2.2.2.1
  have hts := CF.2.2.2.2
  have hl : lv_has ls 1 [(0, .int x)] := hl
  refine lv_iload_n hx hb dX9_isRequired_0 rfl (lv_at hl 0 rfl) ?_
  refine lv_iconst (v := 1) hx hb dX9_isRequired_1 (by decide) ?_
  refine lv_bipush (v := 9) hx hb dX9_isRequired_2 (by decide) ?_
  refine r_cR hS (r_runS (n := 3) (As := [.int x, .int (1 : Int32), .int (9 : Int32)]) (rest := []) CF hK hH (c_X9_isBetween l G σ x (1 : Int32) (9 : Int32)) gX9_isRequired_X9_isBetween rfl rfl rfl (by decide +kernel) ⟨⟨Nat.le_of_ble_eq_true rfl, Nat.le_of_ble_eq_true rfl⟩, Nat.le_of_ble_eq_true rfl, Nat.le_of_ble_eq_true rfl⟩ rfl hl.1 rfl (Nat.le_of_ble_eq_true rfl) dX9_isRequired_4) (fun H locs hH hS => ?_)
  exact r_zret CF hr hlk hH hS (b2i_nar _) dX9_isRequired_7 ⟨rfl, rfl⟩

set_option maxRecDepth 100000 in
set_option maxHeartbeats 4000000 in
theorem c_X9_gapCount (l : Launch) (G : Gm) (σ : Sg) (R C n : Nat) (sq : Nat → S4) (hA : MA σ R C n sq) (x : Int32) : Met l yX9_gapCount wsX9_gapCount (rmO 5 127) (PP G [.ref (G.2.1 29), .int x] σ) (QI G (RV (aGapc R C (σ 30) (cmM σ) n sq x) σ)) 0 0 (fr G) := by
  refine r_start (cc := cX9_gapCount) (maxL := 4) (ret := (some .int)) (by decide) rfl (Nat.le_of_ble_eq_true rfl) ?_
  intro pz ez sz mz below meth cz ls CF hr hlk hK hH hS hl
  have CF : CallFix pz mz cz cX9_gapCount 4 sz (List.toArray [.ref (G.2.1 29), .int x]) wsX9_gapCount RX9 := CF
  have hx := CF.1
  have hb := CF.2.1
  have hown := CF.2.2.2.1
  have hts := CF.2.2.2.2
  have hl : lv_has ls 4 [(0, .ref (G.2.1 29)), (1, .int x)] := hl
  have K1 := hts _ (List.mem_of_getElem? (i := 1) rfl)
  have K2 := hts _ (List.mem_of_getElem? (i := 2) rfl)
  have JX9 : ∀ w ∈ wsX90, w ∈ wsX9_gapCount := in_r _ [50, 51, 52, 53, 54, 55, 56, 57, 58, 59, 60, 61, 62, 63, 64, 65, 66, 67, 68, 69] (by decide +kernel)
  obtain ⟨hR, hC, hR3, hR10, hC4, hC16, hM⟩ := hA
  have hn := hM.1
  have hn8 := hM.2.1
  have hRC := RC_le hR10 hC16
  refine lv_iload_n hx hb dX9_gapCount_0 rfl (lv_at hl 1 rfl) ?_
  refine r_cR hS (r_runS (n := 1) (As := [.int x]) (rest := []) CF hK hH (c_X9_isRequired l G σ x) gX9_gapCount_X9_isRequired rfl rfl rfl (by decide +kernel) ⟨⟨Nat.le_of_ble_eq_true rfl, Nat.le_of_ble_eq_true rfl⟩, Nat.le_of_ble_eq_true rfl, Nat.le_of_ble_eq_true rfl⟩ rfl hl.1 rfl (Nat.le_of_ble_eq_true rfl) dX9_gapCount_1) (fun H locs hH hS => ?_)
  refine r_ifneB (tgt := 10) hx hb dX9_gapCount_4 (by decide) (fun c4 => ?_) (fun c4 => ?_)
  · obtain ⟨L, hL1, hL9, eL, eLN⟩ := isW_of (a := 1) (b := 9) c4 (by omega) (by omega)
    refine lv_iconst (v := 0) hx hb dX9_gapCount_10 (by decide) ?_
    refine lv_istore_n (lv' := [(2, .int (0 : Int32)), (0, .ref (G.2.1 29)), (1, .int x)]) hx hb dX9_gapCount_11 rfl hl (by decide) rfl (fun ls hl => ?_)
    refine lv_iconst (v := 0) hx hb dX9_gapCount_12 (by decide) ?_
    refine lv_istore_n (lv' := [(3, .int (0 : Int32)), (2, .int (0 : Int32)), (0, .ref (G.2.1 29)), (1, .int x)]) hx hb dX9_gapCount_13 rfl hl (by decide) rfl (fun ls hl => ?_)
    have lp14 : ∀ (fu : Nat) (z : Nat) (x2 : Int32) (H : Heap) (locs : List Loc) (ls : Array Slot), (R * C + 1 ≤ z + fu) → (z ≤ R * C) → (x2 = nI (cnt (gapP (σ 30) (cmM σ) sq n C L) z)) → Hp G σ H → va_S (fr G) sz.heap H locs → lv_has ls 4 [(0, .ref (G.2.1 29)), (1, .int x), (2, .int x2), (3, .int (nI z))] → W pz l ez (rmO 5 127) sz mz (List.toArray [.ref (G.2.1 29), .int x]) below meth cz H locs 0 0 (MQ below (QI G (RV (aGapc R C (σ 30) (cmM σ) n sq x) σ)) (List.toArray [.ref (G.2.1 29), .int x]) sz 0 0 (fr G)) (F0 mz 14 ls []) := by
      intro fu
      induction fu with
      | zero => intros; omega
      | succ fu ih14 =>
        intro z x2 H locs ls hf hzl hz hH hS hl
        refine lv_iload_n hx hb dX9_gapCount_14 rfl (lv_at hl 3 rfl) ?_
        refine lv_aload_n hx hb dX9_gapCount_15 rfl (lv_at hl 0 rfl) ?_
        refine r_get CF hK hH 29 (Nat.le_of_ble_eq_true rfl) rfl rfl JX9 0 (by decide) K1 rfl dX9_gapCount_16 ?_
        refine r_top (show (σ 29 0 : Int32) = nI R from hR) ?_
        refine lv_aload_n hx hb dX9_gapCount_19 rfl (lv_at hl 0 rfl) ?_
        refine r_get CF hK hH 29 (Nat.le_of_ble_eq_true rfl) rfl rfl JX9 1 (by decide) K2 rfl dX9_gapCount_20 ?_
        refine r_top (show (σ 29 1 : Int32) = nI C from hC) ?_
        refine lv_imul hx hb dX9_gapCount_23 ?_
        refine r_top (show (((nI R) * (nI C)) : Int32) = nI (R * C) from pk_mul R C) ?_
        refine lv_icmp_ge (tgt := 50) hx hb dX9_gapCount_24 (by decide) (fun c24 => ?_) (fun c24 => ?_)
        · have c24 : (R * C) ≤ z := (nI_leI (a := (R * C)) (b := z) (by omega) (by omega)).mp c24
          refine lv_iload_n hx hb dX9_gapCount_50 rfl (lv_at hl 2 rfl) ?_
          exact r_iret CF hr hlk hH hS dX9_gapCount_51 ⟨by have e : z = R * C := (by omega); simp [aGapc, c4, eLN, hz, e], rfl⟩
        · have c24 : z < (R * C) := Nat.lt_of_not_le (fun zq => c24 ((nI_leI (a := (R * C)) (b := z) (by omega) (by omega)).mpr zq))
          refine lv_iload_n hx hb dX9_gapCount_27 rfl (lv_at hl 2 rfl) ?_
          refine lv_aload_n hx hb dX9_gapCount_28 rfl (lv_at hl 0 rfl) ?_
          refine lv_iload_n hx hb dX9_gapCount_29 rfl (lv_at hl 3 rfl) ?_
          refine r_cR hS (r_runV (n := 1) (As := [.int (nI z)]) (rest := [.int x2]) CF hK hH (c_X9_coverageOf l G σ R C n sq ⟨hR, hC, hR3, hR10, hC4, hC16, hM⟩ z (by omega)) gX9_gapCount_X9_coverageOf rfl rfl rfl rfl (by decide +kernel) ⟨⟨Nat.le_of_ble_eq_true rfl, Nat.le_of_ble_eq_true rfl⟩, Nat.le_of_ble_eq_true rfl, Nat.le_of_ble_eq_true rfl⟩ 29 rfl (Nat.le_of_ble_eq_true rfl) rfl rfl rfl hl.1 rfl (Nat.le_of_ble_eq_true rfl) dX9_gapCount_30) (fun H locs hH hS => ?_)
          refine lv_iload_n hx hb dX9_gapCount_33 rfl (lv_at hl 1 rfl) ?_
          refine r_top (show (x : Int32) = nI L from eL) ?_
          refine lv_icmp_ge (tgt := 41) hx hb dX9_gapCount_34 (by decide) (fun c34 => ?_) (fun c34 => ?_)
          · have gp : gapP (σ 30) (cmM σ) sq n C L z = false := (by have q := (nI_leI (a := L) (by omega) (by have := covF_le (σ 30) (cmM σ) sq (z / C) (z % C) (n := n) (fun i hi => (hM.2.2 i hi).2.2.2.2); omega)).mp c34; simp [gapP]; omega)
            refine lv_iconst (v := 0) hx hb dX9_gapCount_41 (by decide) ?_
            refine lv_iadd hx hb dX9_gapCount_42 ?_
            refine lv_istore_n (lv' := [(2, .int (x2 + (0 : Int32))), (0, .ref (G.2.1 29)), (1, .int x), (3, .int (nI z))]) hx hb dX9_gapCount_43 rfl hl (by decide) rfl (fun ls hl => ?_)
            refine lv_iinc (v := nI (z + 1)) (lv' := [(3, .int (nI (z + 1))), (2, .int (x2 + (0 : Int32))), (0, .ref (G.2.1 29)), (1, .int x)]) hx hb dX9_gapCount_44 hl (k := 3) rfl (nI_1 _) (by decide) rfl (fun ls hl => ?_)
            refine lv_goto (tgt := 14) hx hb dX9_gapCount_47 (by decide) ?_
            exact ih14 (z + 1) (x2 + (0 : Int32)) _ _ ls (by omega) (by omega) (by rw [cnt_f (p := gapP (σ 30) (cmM σ) sq n C L) gp, hz]; simp) hH hS (lv_sub hl [2, 3, 1, 0] rfl)
          · have gp : gapP (σ 30) (cmM σ) sq n C L z = true := (by have q : ¬ L ≤ covF (σ 30) (cmM σ) sq (z / C) (z % C) n := fun zq => c34 (nI_le zq (by have := covF_le (σ 30) (cmM σ) sq (z / C) (z % C) (n := n) (fun i hi => (hM.2.2 i hi).2.2.2.2); omega)); simp [gapP]; omega)
            refine lv_iconst (v := 1) hx hb dX9_gapCount_37 (by decide) ?_
            refine lv_goto (tgt := 42) hx hb dX9_gapCount_38 (by decide) ?_
            refine lv_iadd hx hb dX9_gapCount_42 ?_
            refine lv_istore_n (lv' := [(2, .int (x2 + (1 : Int32))), (0, .ref (G.2.1 29)), (1, .int x), (3, .int (nI z))]) hx hb dX9_gapCount_43 rfl hl (by decide) rfl (fun ls hl => ?_)
            refine lv_iinc (v := nI (z + 1)) (lv' := [(3, .int (nI (z + 1))), (2, .int (x2 + (1 : Int32))), (0, .ref (G.2.1 29)), (1, .int x)]) hx hb dX9_gapCount_44 hl (k := 3) rfl (nI_1 _) (by decide) rfl (fun ls hl => ?_)
            refine lv_goto (tgt := 14) hx hb dX9_gapCount_47 (by decide) ?_
            exact ih14 (z + 1) (x2 + (1 : Int32)) _ _ ls (by omega) (by omega) (cntT (p := gapP (σ 30) (cmM σ) sq n C L) gp hz) hH hS (lv_sub hl [2, 3, 1, 0] rfl)
    exact lp14 (R * C + 1) 0 (0 : Int32) _ _ ls (by omega) (by omega) rfl hH hS (lv_sub hl [2, 3, 1, 0] rfl)
  · refine lv_bipush (v := (-4)) hx hb dX9_gapCount_7 (by decide) ?_
    exact r_iret CF hr hlk hH hS dX9_gapCount_9 ⟨by simp [aGapc, c4], rfl⟩

set_option maxRecDepth 100000 in
set_option maxHeartbeats 4000000 in
theorem c_X9_gapAt (l : Launch) (G : Gm) (σ : Sg) (R C n : Nat) (sq : Nat → S4) (hA : MA σ R C n sq) (x k : Int32) : Met l yX9_gapAt wsX9_gapAt (rmO 5 127) (PP G [.ref (G.2.1 29), .int x, .int k] σ) (QI G (RV (aGapat R C (σ 30) (cmM σ) n sq x k) σ)) 0 0 (fr G) := by
  refine r_start (cc := cX9_gapAt) (maxL := 5) (ret := (some .int)) (by decide) rfl (Nat.le_of_ble_eq_true rfl) ?_
  intro pz ez sz mz below meth cz ls CF hr hlk hK hH hS hl
  have CF : CallFix pz mz cz cX9_gapAt 5 sz (List.toArray [.ref (G.2.1 29), .int x, .int k]) wsX9_gapAt RX9 := CF
  have hx := CF.1
  have hb := CF.2.1
  have hown := CF.2.2.2.1
  have hts := CF.2.2.2.2
  have hl : lv_has ls 5 [(0, .ref (G.2.1 29)), (1, .int x), (2, .int k)] := hl
  have K1 := hts _ (List.mem_of_getElem? (i := 1) rfl)
  have K2 := hts _ (List.mem_of_getElem? (i := 2) rfl)
  have JX9 : ∀ w ∈ wsX90, w ∈ wsX9_gapAt := in_r _ [50, 51, 52, 53, 54, 55, 56, 57, 58, 59, 60, 61, 62, 63, 64, 65, 66, 67, 68, 69] (by decide +kernel)
  obtain ⟨hR, hC, hR3, hR10, hC4, hC16, hM⟩ := hA
  have hn := hM.1
  have hn8 := hM.2.1
  have hRC := RC_le hR10 hC16
  refine lv_iload_n hx hb dX9_gapAt_0 rfl (lv_at hl 1 rfl) ?_
  refine r_cR hS (r_runS (n := 1) (As := [.int x]) (rest := []) CF hK hH (c_X9_isRequired l G σ x) gX9_gapAt_X9_isRequired rfl rfl rfl (by decide +kernel) ⟨⟨Nat.le_of_ble_eq_true rfl, Nat.le_of_ble_eq_true rfl⟩, Nat.le_of_ble_eq_true rfl, Nat.le_of_ble_eq_true rfl⟩ rfl hl.1 rfl (Nat.le_of_ble_eq_true rfl) dX9_gapAt_1) (fun H locs hH hS => ?_)
  refine r_ifeqB (tgt := 11) hx hb dX9_gapAt_4 (by decide) (fun c4 => ?_) (fun c4 => ?_)
  · refine lv_bipush (v := (-4)) hx hb dX9_gapAt_11 (by decide) ?_
    exact r_iret CF hr hlk hH hS dX9_gapAt_13 ⟨by simp [aGapat, c4], rfl⟩
  · obtain ⟨L, hL1, hL9, eL, eLN⟩ := isW_of (a := 1) (b := 9) c4 (by omega) (by omega)
    refine lv_iload_n hx hb dX9_gapAt_7 rfl (lv_at hl 2 rfl) ?_
    refine lv_if_ge (tgt := 14) hx hb dX9_gapAt_8 (by decide) (fun c8 => ?_) (fun c8 => ?_)
    · have hk0 : ¬ k < 0 := (by grind)
      obtain ⟨kn, hkn, ek⟩ := nI_of hk0
      have ekN := N_of ek hkn
      refine lv_iload_n hx hb dX9_gapAt_14 rfl (lv_at hl 2 rfl) ?_
      refine r_top (show (k : Int32) = nI (kn - 0) from ek) ?_
      refine lv_istore_n (lv' := [(3, .int (nI (kn - 0))), (0, .ref (G.2.1 29)), (1, .int x), (2, .int k)]) hx hb dX9_gapAt_15 rfl hl (by decide) rfl (fun ls hl => ?_)
      refine lv_iconst (v := 0) hx hb dX9_gapAt_16 (by decide) ?_
      refine lv_istore (lv' := [(4, .int (0 : Int32)), (3, .int (nI (kn - 0))), (0, .ref (G.2.1 29)), (1, .int x), (2, .int k)]) hx hb dX9_gapAt_17 hl (by decide) rfl (fun ls hl => ?_)
      have lp19 : ∀ (fu : Nat) (z : Nat) (x3 : Int32) (H : Heap) (locs : List Loc) (ls : Array Slot), (R * C + 1 ≤ z + fu) → (z ≤ R * C) → (cnt (gapP (σ 30) (cmM σ) sq n C L) z ≤ kn) → (x3 = nI (kn - cnt (gapP (σ 30) (cmM σ) sq n C L) z)) → (nthF (gapP (σ 30) (cmM σ) sq n C L) kn z = none) → Hp G σ H → va_S (fr G) sz.heap H locs → lv_has ls 5 [(0, .ref (G.2.1 29)), (1, .int x), (2, .int k), (3, .int x3), (4, .int (nI z))] → W pz l ez (rmO 5 127) sz mz (List.toArray [.ref (G.2.1 29), .int x, .int k]) below meth cz H locs 0 0 (MQ below (QI G (RV (aGapat R C (σ 30) (cmM σ) n sq x k) σ)) (List.toArray [.ref (G.2.1 29), .int x, .int k]) sz 0 0 (fr G)) (F0 mz 19 ls []) := by
        intro fu
        induction fu with
        | zero => intros; omega
        | succ fu ih19 =>
          intro z x3 H locs ls hf hzl hck hz ht hH hS hl
          refine lv_iload hx hb dX9_gapAt_19 (lv_at hl 4 rfl) ?_
          refine lv_aload_n hx hb dX9_gapAt_21 rfl (lv_at hl 0 rfl) ?_
          refine r_get CF hK hH 29 (Nat.le_of_ble_eq_true rfl) rfl rfl JX9 0 (by decide) K1 rfl dX9_gapAt_22 ?_
          refine r_top (show (σ 29 0 : Int32) = nI R from hR) ?_
          refine lv_aload_n hx hb dX9_gapAt_25 rfl (lv_at hl 0 rfl) ?_
          refine r_get CF hK hH 29 (Nat.le_of_ble_eq_true rfl) rfl rfl JX9 1 (by decide) K2 rfl dX9_gapAt_26 ?_
          refine r_top (show (σ 29 1 : Int32) = nI C from hC) ?_
          refine lv_imul hx hb dX9_gapAt_29 ?_
          refine r_top (show (((nI R) * (nI C)) : Int32) = nI (R * C) from pk_mul R C) ?_
          refine lv_icmp_ge (tgt := 75) hx hb dX9_gapAt_30 (by decide) (fun c30 => ?_) (fun c30 => ?_)
          · have c30 : (R * C) ≤ z := (nI_leI (a := (R * C)) (b := z) (by omega) (by omega)).mp c30
            refine lv_bipush (v := (-6)) hx hb dX9_gapAt_75 (by decide) ?_
            exact r_iret CF hr hlk hH hS dX9_gapAt_77 ⟨by have e : z = R * C := (by omega); rw [e] at ht; simp [aGapat, c4, hk0, eLN, ekN, ht], rfl⟩
          · have c30 : z < (R * C) := Nat.lt_of_not_le (fun zq => c30 ((nI_leI (a := (R * C)) (b := z) (by omega) (by omega)).mpr zq))
            refine lv_aload_n hx hb dX9_gapAt_33 rfl (lv_at hl 0 rfl) ?_
            refine lv_iload hx hb dX9_gapAt_34 (lv_at hl 4 rfl) ?_
            refine r_cR hS (r_runV (n := 1) (As := [.int (nI z)]) (rest := []) CF hK hH (c_X9_coverageOf l G σ R C n sq ⟨hR, hC, hR3, hR10, hC4, hC16, hM⟩ z (by omega)) gX9_gapAt_X9_coverageOf rfl rfl rfl rfl (by decide +kernel) ⟨⟨Nat.le_of_ble_eq_true rfl, Nat.le_of_ble_eq_true rfl⟩, Nat.le_of_ble_eq_true rfl, Nat.le_of_ble_eq_true rfl⟩ 29 rfl (Nat.le_of_ble_eq_true rfl) rfl rfl rfl hl.1 rfl (Nat.le_of_ble_eq_true rfl) dX9_gapAt_36) (fun H locs hH hS => ?_)
            refine lv_iload_n hx hb dX9_gapAt_39 rfl (lv_at hl 1 rfl) ?_
            refine r_top (show (x : Int32) = nI L from eL) ?_
            refine lv_icmp_ge (tgt := 69) hx hb dX9_gapAt_40 (by decide) (fun c40 => ?_) (fun c40 => ?_)
            · have gp : gapP (σ 30) (cmM σ) sq n C L z = false := (by have q := (nI_leI (a := L) (by omega) (by have := covF_le (σ 30) (cmM σ) sq (z / C) (z % C) (n := n) (fun i hi => (hM.2.2 i hi).2.2.2.2); omega)).mp c40; simp [gapP]; omega)
              refine lv_iinc (v := nI (z + 1)) (lv' := [(4, .int (nI (z + 1))), (0, .ref (G.2.1 29)), (1, .int x), (2, .int k), (3, .int x3)]) hx hb dX9_gapAt_69 hl (k := 4) rfl (nI_1 _) (by decide) rfl (fun ls hl => ?_)
              refine lv_goto (tgt := 19) hx hb dX9_gapAt_72 (by decide) ?_
              exact ih19 (z + 1) x3 _ _ ls (by omega) (by omega) (by rw [cnt_f (p := gapP (σ 30) (cmM σ) sq n C L) gp]; exact hck) (by rw [cnt_f (p := gapP (σ 30) (cmM σ) sq n C L) gp]; exact hz) (nth_n ht (Or.inl gp)) hH hS (lv_sub hl [1, 2, 3, 4, 0] rfl)
            · have gp : gapP (σ 30) (cmM σ) sq n C L z = true := (by have q : ¬ L ≤ covF (σ 30) (cmM σ) sq (z / C) (z % C) n := fun zq => c40 (nI_le zq (by have := covF_le (σ 30) (cmM σ) sq (z / C) (z % C) (n := n) (fun i hi => (hM.2.2 i hi).2.2.2.2); omega)); simp [gapP]; omega)
              refine lv_iload_n hx hb dX9_gapAt_43 rfl (lv_at hl 3 rfl) ?_
              refine lv_if_ne (tgt := 66) hx hb dX9_gapAt_44 (by decide) (fun c44 => ?_) (fun c44 => ?_)
              · have c44 : ¬ cnt (gapP (σ 30) (cmM σ) sq n C L) z = kn := fun zq => c44 (by rw [hz, zq, Nat.sub_self]; rfl)
                refine lv_iinc (v := (x3 + (-1))) (lv' := [(3, .int (x3 + (-1))), (0, .ref (G.2.1 29)), (1, .int x), (2, .int k), (4, .int (nI z))]) hx hb dX9_gapAt_66 hl (k := 3) rfl rfl (by decide) rfl (fun ls hl => ?_)
                refine lv_iinc (v := nI (z + 1)) (lv' := [(4, .int (nI (z + 1))), (3, .int (x3 + (-1))), (0, .ref (G.2.1 29)), (1, .int x), (2, .int k)]) hx hb dX9_gapAt_69 hl (k := 4) rfl (nI_1 _) (by decide) rfl (fun ls hl => ?_)
                refine lv_goto (tgt := 19) hx hb dX9_gapAt_72 (by decide) ?_
                exact ih19 (z + 1) (x3 + (-1)) _ _ ls (by omega) (by omega) (by rw [cnt_t (p := gapP (σ 30) (cmM σ) sq n C L) gp]; omega) (by rw [cnt_t (p := gapP (σ 30) (cmM σ) sq n C L) gp, hz]; exact dec_nI (by omega)) (nth_n ht (Or.inr c44)) hH hS (lv_sub hl [2, 3, 4, 1, 0] rfl)
              · have c44 : cnt (gapP (σ 30) (cmM σ) sq n C L) z = kn := (by have q := (nI_eq (b := 0) (by omega) (by omega)).mp (hz.symm.trans c44); omega)
                refine lv_bipush (v := 100) hx hb dX9_gapAt_47 (by decide) ?_
                refine lv_iload hx hb dX9_gapAt_49 (lv_at hl 4 rfl) ?_
                refine lv_aload_n hx hb dX9_gapAt_51 rfl (lv_at hl 0 rfl) ?_
                refine r_get CF hK hH 29 (Nat.le_of_ble_eq_true rfl) rfl rfl JX9 1 (by decide) K2 rfl dX9_gapAt_52 ?_
                refine r_top (show (σ 29 1 : Int32) = nI C from hC) ?_
                refine lv_idiv hx hb dX9_gapAt_55 (nI_ne0 (by omega) (by omega)) ?_
                refine r_top (show (((nI z) / (nI C)) : Int32) = nI (z / C) from (dvd_nI (by omega) (by omega) hC16).1) ?_
                refine lv_imul hx hb dX9_gapAt_56 ?_
                refine lv_iload hx hb dX9_gapAt_57 (lv_at hl 4 rfl) ?_
                refine lv_aload_n hx hb dX9_gapAt_59 rfl (lv_at hl 0 rfl) ?_
                refine r_get CF hK hH 29 (Nat.le_of_ble_eq_true rfl) rfl rfl JX9 1 (by decide) K2 rfl dX9_gapAt_60 ?_
                refine r_top (show (σ 29 1 : Int32) = nI C from hC) ?_
                refine lv_irem hx hb dX9_gapAt_63 (nI_ne0 (by omega) (by omega)) ?_
                refine r_top (show (((nI z) - (nI z) / (nI C) * (nI C)) : Int32) = nI (z % C) from (dvd_nI (by omega) (by omega) hC16).2) ?_
                refine lv_iadd hx hb dX9_gapAt_64 ?_
                refine r_top (show ((((100 : Int32) * (nI (z / C))) + (nI (z % C))) : Int32) = nI (100 * (z / C) + z % C) from (by rw [show (100 : Int32) = nI 100 from rfl, pk_mul, nI_add])) ?_
                exact r_iret CF hr hlk hH hS dX9_gapAt_65 ⟨by have q := nth_stop (nth_s ht gp c44) (N := R * C) c30; simp [aGapat, c4, hk0, eLN, ekN, q], rfl⟩
      exact lp19 (R * C + 1) 0 (nI (kn - 0)) _ _ ls (by omega) (by omega) (Nat.zero_le _) rfl rfl hH hS (lv_sub hl [2, 3, 4, 1, 0] rfl)
    · refine lv_bipush (v := (-4)) hx hb dX9_gapAt_11 (by decide) ?_
      exact r_iret CF hr hlk hH hS dX9_gapAt_13 ⟨by have q : k < 0 := (by grind); simp [aGapat, q], rfl⟩
