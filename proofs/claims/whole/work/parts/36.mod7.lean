/-! ===== the reference's routes ===== -/
def AM (σ : Sg) (sp : S4) : Prop := σ 29 6 = nI sp.1 ∧ σ 29 8 = nI sp.2.1 ∧ σ 29 6 + σ 29 7 = nI sp.2.2.1 ∧ σ 29 6 - σ 29 7 = nI sp.2.2.2 ∧ okP sp
theorem ad_ab {a b : Nat} (ha : a < 2 ^ 20) (hb : b < 2 ^ 20) : ab (nI a - nI b) = nI (ad1 b a) := by rw [ab_nI ha hb, ad1_s]

set_option maxRecDepth 100000 in
set_option maxHeartbeats 4000000 in
theorem c_X9_legTime (l : Launch) (G : Gm) (σ : Sg) (n : Nat) (sq : Nat → S4) (hM : MS σ n sq) (sp : S4) (hs : AM σ sp) (k : Nat) (hk : k < 2 * n) : Met l yX9_legTime wsX9_legTime (rmO 0 0) (PP G [.ref (G.2.1 29), .int (nI k)] σ) (QI G (RV (nI (ftF sp (sq (k / 2)) (ea k))) σ)) 0 0 (fr G) := by
  refine r_start (cc := cX9_legTime) (maxL := 3) (ret := (some .int)) (by decide) rfl (Nat.le_of_ble_eq_true rfl) ?_
  intro pz ez sz mz below meth cz ls CF hr hlk hK hH hS hl
  have CF : CallFix pz mz cz cX9_legTime 3 sz (List.toArray [.ref (G.2.1 29), .int (nI k)]) wsX9_legTime RX9 := CF
  have hx := CF.1
  have hb := CF.2.1
  have hown := CF.2.2.2.1
  have hts := CF.2.2.2.2
  have hl : lv_has ls 3 [(0, .ref (G.2.1 29)), (1, .int (nI k))] := hl
  have K1 := hts _ (List.mem_of_getElem? (i := 1) rfl)
  have K2 := hts _ (List.mem_of_getElem? (i := 2) rfl)
  have K3 := hts _ (List.mem_of_getElem? (i := 3) rfl)
  have K4 := hts _ (List.mem_of_getElem? (i := 4) rfl)
  have JX9 : ∀ w ∈ wsX90, w ∈ wsX9_legTime := in_r _ [5, 6, 7, 8, 9, 10, 11, 12, 13, 14, 15, 16, 17, 18, 19, 20, 21, 22, 23, 24] (by decide +kernel)
  have hn := hM.1
  have hn8 := hM.2.1
  have hv := hM.2.2 (k / 2) (by omega)
  obtain ⟨s1, s2, s3, s4, p1, p2, p3, p4, p5, p6, p7⟩ := id hs
  refine lv_iload_n hx hb dX9_legTime_0 rfl (lv_at hl 1 rfl) ?_
  refine lv_iconst (v := 2) hx hb dX9_legTime_1 (by decide) ?_
  refine lv_irem hx hb dX9_legTime_2 (by decide) ?_
  refine r_top (show (((nI k) - (nI k) / (2 : Int32) * (2 : Int32)) : Int32) = nI (k % 2) from (pk_rem (d := 2) (by omega) (by omega) (by omega))) ?_
  refine lv_if_ne (tgt := 18) hx hb dX9_legTime_3 (by decide) (fun c3 => ?_) (fun c3 => ?_)
  · have c3 : ¬ k % 2 = 0 := fun zq => c3 (by rw [zq]; rfl)
    have he : ea k = false := (by simp [ea, c3])
    refine lv_aload_n hx hb dX9_legTime_18 rfl (lv_at hl 0 rfl) ?_
    refine r_get CF hK hH 29 (Nat.le_of_ble_eq_true rfl) rfl rfl JX9 6 (by decide) K1 rfl dX9_legTime_19 ?_
    refine lv_aload_n hx hb dX9_legTime_22 rfl (lv_at hl 0 rfl) ?_
    refine r_get CF hK hH 29 (Nat.le_of_ble_eq_true rfl) rfl rfl JX9 7 (by decide) K2 rfl dX9_legTime_23 ?_
    refine lv_isub hx hb dX9_legTime_26 ?_
    refine r_top (show (((σ 29 6) - (σ 29 7)) : Int32) = nI sp.2.2.2 from s4) ?_
    refine lv_istore_n (lv' := [(2, .int (nI sp.2.2.2)), (0, .ref (G.2.1 29)), (1, .int (nI k))]) hx hb dX9_legTime_27 rfl hl (by decide) rfl (fun ls hl => ?_)
    refine lv_aload_n hx hb dX9_legTime_28 rfl (lv_at hl 1 rfl) ?_
    refine r_get CF hK hH 29 (Nat.le_of_ble_eq_true rfl) rfl rfl JX9 13 (by decide) K3 rfl dX9_legTime_29 ?_
    refine lv_iload_n hx hb dX9_legTime_32 rfl (lv_at hl 2 rfl) ?_
    refine lv_iconst (v := 2) hx hb dX9_legTime_33 (by decide) ?_
    refine lv_idiv hx hb dX9_legTime_34 (by decide) ?_
    refine r_top (show (((nI k) / (2 : Int32)) : Int32) = nI (k / 2) from half_nI (by omega)) ?_
    refine r_iald CF hK hH 33 (Nat.le_of_ble_eq_true rfl) rfl (Nat.le_of_ble_eq_true rfl) (k / 2) rfl (by omega) dX9_legTime_35 ?_
    refine lv_aload_n hx hb dX9_legTime_36 rfl (lv_at hl 1 rfl) ?_
    refine r_get CF hK hH 29 (Nat.le_of_ble_eq_true rfl) rfl rfl JX9 12 (by decide) K4 rfl dX9_legTime_37 ?_
    refine lv_iload_n hx hb dX9_legTime_40 rfl (lv_at hl 2 rfl) ?_
    refine lv_iconst (v := 2) hx hb dX9_legTime_41 (by decide) ?_
    refine lv_idiv hx hb dX9_legTime_42 (by decide) ?_
    refine r_top (show (((nI k) / (2 : Int32)) : Int32) = nI (k / 2) from half_nI (by omega)) ?_
    refine r_iald CF hK hH 32 (Nat.le_of_ble_eq_true rfl) rfl (Nat.le_of_ble_eq_true rfl) (k / 2) rfl (by omega) dX9_legTime_43 ?_
    refine lv_isub hx hb dX9_legTime_44 ?_
    refine r_top (show (((σ 33 (k / 2)) - (σ 32 (k / 2))) : Int32) = nI ((sq (k / 2)).2.2.1 - (sq (k / 2)).2.1) from (by rw [hv.2.2.1, hv.2.1]; exact pk_sub hv.2.2.2.2.2.1)) ?_
    refine lv_sipush (v := 1000) hx hb dX9_legTime_45 (by decide) ?_
    refine lv_imul hx hb dX9_legTime_48 ?_
    refine r_top (show (((nI ((sq (k / 2)).2.2.1 - (sq (k / 2)).2.1)) * (1000 : Int32)) : Int32) = nI (((sq (k / 2)).2.2.1 - (sq (k / 2)).2.1) * 1000) from (pk_mul _ 1000)) ?_
    refine lv_iload_n hx hb dX9_legTime_49 rfl (lv_at hl 0 rfl) ?_
    refine lv_idiv hx hb dX9_legTime_50 (nI_ne0 (by omega) (by omega)) ?_
    exact r_iret CF hr hlk hH hS dX9_legTime_51 ⟨by unfold ftF; rw [he]; exact pk_div (by have := hv.2.2.2.2.2.2.1; omega) (by omega) (by omega), rfl⟩
  · have c3 : k % 2 = 0 := (nI_eq (b := 0) (by omega) (by omega)).mp c3
    have he : ea k = true := (by simp [ea, c3])
    refine lv_aload_n hx hb dX9_legTime_6 rfl (lv_at hl 0 rfl) ?_
    refine r_get CF hK hH 29 (Nat.le_of_ble_eq_true rfl) rfl rfl JX9 6 (by decide) K1 rfl dX9_legTime_7 ?_
    refine lv_aload_n hx hb dX9_legTime_10 rfl (lv_at hl 0 rfl) ?_
    refine r_get CF hK hH 29 (Nat.le_of_ble_eq_true rfl) rfl rfl JX9 7 (by decide) K2 rfl dX9_legTime_11 ?_
    refine lv_iadd hx hb dX9_legTime_14 ?_
    refine r_top (show (((σ 29 6) + (σ 29 7)) : Int32) = nI sp.2.2.1 from s3) ?_
    refine lv_goto (tgt := 27) hx hb dX9_legTime_15 (by decide) ?_
    refine lv_istore_n (lv' := [(2, .int (nI sp.2.2.1)), (0, .ref (G.2.1 29)), (1, .int (nI k))]) hx hb dX9_legTime_27 rfl hl (by decide) rfl (fun ls hl => ?_)
    refine lv_aload_n hx hb dX9_legTime_28 rfl (lv_at hl 1 rfl) ?_
    refine r_get CF hK hH 29 (Nat.le_of_ble_eq_true rfl) rfl rfl JX9 13 (by decide) K3 rfl dX9_legTime_29 ?_
    refine lv_iload_n hx hb dX9_legTime_32 rfl (lv_at hl 2 rfl) ?_
    refine lv_iconst (v := 2) hx hb dX9_legTime_33 (by decide) ?_
    refine lv_idiv hx hb dX9_legTime_34 (by decide) ?_
    refine r_top (show (((nI k) / (2 : Int32)) : Int32) = nI (k / 2) from half_nI (by omega)) ?_
    refine r_iald CF hK hH 33 (Nat.le_of_ble_eq_true rfl) rfl (Nat.le_of_ble_eq_true rfl) (k / 2) rfl (by omega) dX9_legTime_35 ?_
    refine lv_aload_n hx hb dX9_legTime_36 rfl (lv_at hl 1 rfl) ?_
    refine r_get CF hK hH 29 (Nat.le_of_ble_eq_true rfl) rfl rfl JX9 12 (by decide) K4 rfl dX9_legTime_37 ?_
    refine lv_iload_n hx hb dX9_legTime_40 rfl (lv_at hl 2 rfl) ?_
    refine lv_iconst (v := 2) hx hb dX9_legTime_41 (by decide) ?_
    refine lv_idiv hx hb dX9_legTime_42 (by decide) ?_
    refine r_top (show (((nI k) / (2 : Int32)) : Int32) = nI (k / 2) from half_nI (by omega)) ?_
    refine r_iald CF hK hH 32 (Nat.le_of_ble_eq_true rfl) rfl (Nat.le_of_ble_eq_true rfl) (k / 2) rfl (by omega) dX9_legTime_43 ?_
    refine lv_isub hx hb dX9_legTime_44 ?_
    refine r_top (show (((σ 33 (k / 2)) - (σ 32 (k / 2))) : Int32) = nI ((sq (k / 2)).2.2.1 - (sq (k / 2)).2.1) from (by rw [hv.2.2.1, hv.2.1]; exact pk_sub hv.2.2.2.2.2.1)) ?_
    refine lv_sipush (v := 1000) hx hb dX9_legTime_45 (by decide) ?_
    refine lv_imul hx hb dX9_legTime_48 ?_
    refine r_top (show (((nI ((sq (k / 2)).2.2.1 - (sq (k / 2)).2.1)) * (1000 : Int32)) : Int32) = nI (((sq (k / 2)).2.2.1 - (sq (k / 2)).2.1) * 1000) from (pk_mul _ 1000)) ?_
    refine lv_iload_n hx hb dX9_legTime_49 rfl (lv_at hl 0 rfl) ?_
    refine lv_idiv hx hb dX9_legTime_50 (nI_ne0 (by omega) (by omega)) ?_
    exact r_iret CF hr hlk hH hS dX9_legTime_51 ⟨by unfold ftF; rw [he]; exact pk_div (by have := hv.2.2.2.2.2.2.1; omega) (by omega) (by omega), rfl⟩

set_option maxRecDepth 100000 in
set_option maxHeartbeats 4000000 in
theorem c_X9_entryColumn (l : Launch) (G : Gm) (σ : Sg) (n : Nat) (sq : Nat → S4) (hM : MS σ n sq) (sp : S4) (hs : AM σ sp) (k : Nat) (hk : k < 2 * n) : Met l yX9_entryColumn wsX9_entryColumn (rmO 0 0) (PP G [.ref (G.2.1 29), .int (nI k)] σ) (QI G (RV (nI (enF (sq (k / 2)) (ea k))) σ)) 0 0 (fr G) := by
  refine r_start (cc := cX9_entryColumn) (maxL := 2) (ret := (some .int)) (by decide) rfl (Nat.le_of_ble_eq_true rfl) ?_
  intro pz ez sz mz below meth cz ls CF hr hlk hK hH hS hl
  have CF : CallFix pz mz cz cX9_entryColumn 2 sz (List.toArray [.ref (G.2.1 29), .int (nI k)]) wsX9_entryColumn RX9 := CF
  have hx := CF.1
  have hb := CF.2.1
  have hown := CF.2.2.2.1
  have hts := CF.2.2.2.2
  have hl : lv_has ls 2 [(0, .ref (G.2.1 29)), (1, .int (nI k))] := hl
  have K1 := hts _ (List.mem_of_getElem? (i := 1) rfl)
  have K2 := hts _ (List.mem_of_getElem? (i := 2) rfl)
  have JX9 : ∀ w ∈ wsX90, w ∈ wsX9_entryColumn := in_r _ [3, 4, 5, 6, 7, 8, 9, 10, 11, 12, 13, 14, 15, 16, 17, 18, 19, 20, 21, 22] (by decide +kernel)
  have hn := hM.1
  have hn8 := hM.2.1
  have hv := hM.2.2 (k / 2) (by omega)
  obtain ⟨s1, s2, s3, s4, p1, p2, p3, p4, p5, p6, p7⟩ := id hs
  refine lv_iload_n hx hb dX9_entryColumn_0 rfl (lv_at hl 1 rfl) ?_
  refine lv_iconst (v := 2) hx hb dX9_entryColumn_1 (by decide) ?_
  refine lv_irem hx hb dX9_entryColumn_2 (by decide) ?_
  refine r_top (show (((nI k) - (nI k) / (2 : Int32) * (2 : Int32)) : Int32) = nI (k % 2) from (pk_rem (d := 2) (by omega) (by omega) (by omega))) ?_
  refine lv_if_ne (tgt := 17) hx hb dX9_entryColumn_3 (by decide) (fun c3 => ?_) (fun c3 => ?_)
  · have c3 : ¬ k % 2 = 0 := fun zq => c3 (by rw [zq]; rfl)
    have he : ea k = false := (by simp [ea, c3])
    refine lv_aload_n hx hb dX9_entryColumn_17 rfl (lv_at hl 0 rfl) ?_
    refine r_get CF hK hH 29 (Nat.le_of_ble_eq_true rfl) rfl rfl JX9 13 (by decide) K2 rfl dX9_entryColumn_18 ?_
    refine lv_iload_n hx hb dX9_entryColumn_21 rfl (lv_at hl 1 rfl) ?_
    refine lv_iconst (v := 2) hx hb dX9_entryColumn_22 (by decide) ?_
    refine lv_idiv hx hb dX9_entryColumn_23 (by decide) ?_
    refine r_top (show (((nI k) / (2 : Int32)) : Int32) = nI (k / 2) from half_nI (by omega)) ?_
    refine r_iald CF hK hH 33 (Nat.le_of_ble_eq_true rfl) rfl (Nat.le_of_ble_eq_true rfl) (k / 2) rfl (by omega) dX9_entryColumn_24 ?_
    exact r_iret CF hr hlk hH hS dX9_entryColumn_25 ⟨by unfold enF; rw [he]; exact hv.2.2.1, rfl⟩
  · have c3 : k % 2 = 0 := (nI_eq (b := 0) (by omega) (by omega)).mp c3
    have he : ea k = true := (by simp [ea, c3])
    refine lv_aload_n hx hb dX9_entryColumn_6 rfl (lv_at hl 0 rfl) ?_
    refine r_get CF hK hH 29 (Nat.le_of_ble_eq_true rfl) rfl rfl JX9 12 (by decide) K1 rfl dX9_entryColumn_7 ?_
    refine lv_iload_n hx hb dX9_entryColumn_10 rfl (lv_at hl 1 rfl) ?_
    refine lv_iconst (v := 2) hx hb dX9_entryColumn_11 (by decide) ?_
    refine lv_idiv hx hb dX9_entryColumn_12 (by decide) ?_
    refine r_top (show (((nI k) / (2 : Int32)) : Int32) = nI (k / 2) from half_nI (by omega)) ?_
    refine r_iald CF hK hH 32 (Nat.le_of_ble_eq_true rfl) rfl (Nat.le_of_ble_eq_true rfl) (k / 2) rfl (by omega) dX9_entryColumn_13 ?_
    refine lv_goto (tgt := 25) hx hb dX9_entryColumn_14 (by decide) ?_
    exact r_iret CF hr hlk hH hS dX9_entryColumn_25 ⟨by unfold enF; rw [he]; exact hv.2.1, rfl⟩

set_option maxRecDepth 100000 in
set_option maxHeartbeats 4000000 in
theorem c_X9_exitColumn (l : Launch) (G : Gm) (σ : Sg) (n : Nat) (sq : Nat → S4) (hM : MS σ n sq) (sp : S4) (hs : AM σ sp) (k : Nat) (hk : k < 2 * n) : Met l yX9_exitColumn wsX9_exitColumn (rmO 0 0) (PP G [.ref (G.2.1 29), .int (nI k)] σ) (QI G (RV (nI (exF (sq (k / 2)) (ea k))) σ)) 0 0 (fr G) := by
  refine r_start (cc := cX9_exitColumn) (maxL := 2) (ret := (some .int)) (by decide) rfl (Nat.le_of_ble_eq_true rfl) ?_
  intro pz ez sz mz below meth cz ls CF hr hlk hK hH hS hl
  have CF : CallFix pz mz cz cX9_exitColumn 2 sz (List.toArray [.ref (G.2.1 29), .int (nI k)]) wsX9_exitColumn RX9 := CF
  have hx := CF.1
  have hb := CF.2.1
  have hown := CF.2.2.2.1
  have hts := CF.2.2.2.2
  have hl : lv_has ls 2 [(0, .ref (G.2.1 29)), (1, .int (nI k))] := hl
  have K1 := hts _ (List.mem_of_getElem? (i := 1) rfl)
  have K2 := hts _ (List.mem_of_getElem? (i := 2) rfl)
  have JX9 : ∀ w ∈ wsX90, w ∈ wsX9_exitColumn := in_r _ [3, 4, 5, 6, 7, 8, 9, 10, 11, 12, 13, 14, 15, 16, 17, 18, 19, 20, 21, 22] (by decide +kernel)
  have hn := hM.1
  have hn8 := hM.2.1
  have hv := hM.2.2 (k / 2) (by omega)
  obtain ⟨s1, s2, s3, s4, p1, p2, p3, p4, p5, p6, p7⟩ := id hs
  refine lv_iload_n hx hb dX9_exitColumn_0 rfl (lv_at hl 1 rfl) ?_
  refine lv_iconst (v := 2) hx hb dX9_exitColumn_1 (by decide) ?_
  refine lv_irem hx hb dX9_exitColumn_2 (by decide) ?_
  refine r_top (show (((nI k) - (nI k) / (2 : Int32) * (2 : Int32)) : Int32) = nI (k % 2) from (pk_rem (d := 2) (by omega) (by omega) (by omega))) ?_
  refine lv_if_ne (tgt := 17) hx hb dX9_exitColumn_3 (by decide) (fun c3 => ?_) (fun c3 => ?_)
  · have c3 : ¬ k % 2 = 0 := fun zq => c3 (by rw [zq]; rfl)
    have he : ea k = false := (by simp [ea, c3])
    refine lv_aload_n hx hb dX9_exitColumn_17 rfl (lv_at hl 0 rfl) ?_
    refine r_get CF hK hH 29 (Nat.le_of_ble_eq_true rfl) rfl rfl JX9 12 (by decide) K2 rfl dX9_exitColumn_18 ?_
    refine lv_iload_n hx hb dX9_exitColumn_21 rfl (lv_at hl 1 rfl) ?_
    refine lv_iconst (v := 2) hx hb dX9_exitColumn_22 (by decide) ?_
    refine lv_idiv hx hb dX9_exitColumn_23 (by decide) ?_
    refine r_top (show (((nI k) / (2 : Int32)) : Int32) = nI (k / 2) from half_nI (by omega)) ?_
    refine r_iald CF hK hH 32 (Nat.le_of_ble_eq_true rfl) rfl (Nat.le_of_ble_eq_true rfl) (k / 2) rfl (by omega) dX9_exitColumn_24 ?_
    exact r_iret CF hr hlk hH hS dX9_exitColumn_25 ⟨by unfold exF; rw [he]; exact hv.2.1, rfl⟩
  · have c3 : k % 2 = 0 := (nI_eq (b := 0) (by omega) (by omega)).mp c3
    have he : ea k = true := (by simp [ea, c3])
    refine lv_aload_n hx hb dX9_exitColumn_6 rfl (lv_at hl 0 rfl) ?_
    refine r_get CF hK hH 29 (Nat.le_of_ble_eq_true rfl) rfl rfl JX9 13 (by decide) K1 rfl dX9_exitColumn_7 ?_
    refine lv_iload_n hx hb dX9_exitColumn_10 rfl (lv_at hl 1 rfl) ?_
    refine lv_iconst (v := 2) hx hb dX9_exitColumn_11 (by decide) ?_
    refine lv_idiv hx hb dX9_exitColumn_12 (by decide) ?_
    refine r_top (show (((nI k) / (2 : Int32)) : Int32) = nI (k / 2) from half_nI (by omega)) ?_
    refine r_iald CF hK hH 33 (Nat.le_of_ble_eq_true rfl) rfl (Nat.le_of_ble_eq_true rfl) (k / 2) rfl (by omega) dX9_exitColumn_13 ?_
    refine lv_goto (tgt := 25) hx hb dX9_exitColumn_14 (by decide) ?_
    exact r_iret CF hr hlk hH hS dX9_exitColumn_25 ⟨by unfold exF; rw [he]; exact hv.2.2.1, rfl⟩

set_option maxRecDepth 100000 in
set_option maxHeartbeats 4000000 in
theorem c_X9_stripTime (l : Launch) (G : Gm) (σ : Sg) (n : Nat) (sq : Nat → S4) (hM : MS σ n sq) (sp : S4) (hs : AM σ sp) (x : Int32) (e : Bool) : Met l yX9_stripTime wsX9_stripTime (rmO 2 43) (PP G [.ref (G.2.1 29), .int x, .int (b2i e)] σ) (QI G (RV (aST n sq sp x e) σ)) 0 0 (fr G) := by
  refine r_start (cc := cX9_stripTime) (maxL := 3) (ret := (some .int)) (by decide) rfl (Nat.le_of_ble_eq_true rfl) ?_
  intro pz ez sz mz below meth cz ls CF hr hlk hK hH hS hl
  have CF : CallFix pz mz cz cX9_stripTime 3 sz (List.toArray [.ref (G.2.1 29), .int x, .int (b2i e)]) wsX9_stripTime RX9 := CF
  have hx := CF.1
  have hb := CF.2.1
  have hown := CF.2.2.2.1
  have hts := CF.2.2.2.2
  have hl : lv_has ls 3 [(0, .ref (G.2.1 29)), (1, .int x), (2, .int (b2i e))] := hl
  have hn := hM.1
  have hn8 := hM.2.1
  refine lv_aload_n hx hb dX9_stripTime_0 rfl (lv_at hl 0 rfl) ?_
  refine lv_iload_n hx hb dX9_stripTime_1 rfl (lv_at hl 1 rfl) ?_
  refine r_cR hS (r_runV (n := 1) (As := [.int x]) (rest := []) CF hK hH (c_X9_isStrip l G σ n hn hn8 x) gX9_stripTime_X9_isStrip rfl rfl rfl rfl (by decide +kernel) ⟨⟨Nat.le_of_ble_eq_true rfl, Nat.le_of_ble_eq_true rfl⟩, Nat.le_of_ble_eq_true rfl, Nat.le_of_ble_eq_true rfl⟩ 29 rfl (Nat.le_of_ble_eq_true rfl) rfl rfl rfl hl.1 rfl (Nat.le_of_ble_eq_true rfl) dX9_stripTime_2) (fun H locs hH hS => ?_)
  refine r_ifeqB (tgt := 28) hx hb dX9_stripTime_5 (by decide) (fun c5 => ?_) (fun c5 => ?_)
  · refine lv_bipush (v := (-2)) hx hb dX9_stripTime_28 (by decide) ?_
    exact r_iret CF hr hlk hH hS dX9_stripTime_30 ⟨by simp [aST, c5], rfl⟩
  · obtain ⟨i, hi, ei⟩ := inB_of c5 (by omega)
    have eiN := N_of ei (by omega)
    refine lv_aload_n hx hb dX9_stripTime_8 rfl (lv_at hl 0 rfl) ?_
    refine lv_iconst (v := 2) hx hb dX9_stripTime_9 (by decide) ?_
    refine lv_iload_n hx hb dX9_stripTime_10 rfl (lv_at hl 1 rfl) ?_
    refine r_top (show (x : Int32) = nI i from ei) ?_
    refine lv_imul hx hb dX9_stripTime_11 ?_
    refine r_top (show (((2 : Int32) * (nI i)) : Int32) = nI (2 * i) from (pk_mul 2 i)) ?_
    refine lv_iload_n hx hb dX9_stripTime_12 rfl (lv_at hl 2 rfl) ?_
    refine r_ifeqB (tgt := 20) hx hb dX9_stripTime_13 (by decide) (fun c13 => ?_) (fun c13 => ?_)
    · refine lv_iconst (v := 1) hx hb dX9_stripTime_20 (by decide) ?_
      refine r_top (show ((1) : Int32) = nI 1 from rfl) ?_
      refine lv_iadd hx hb dX9_stripTime_21 ?_
      refine r_top (show (((nI (2 * i)) + (nI 1)) : Int32) = nI (2 * i + 1) from nI_add _ _) ?_
      refine r_cR hS (r_runV (n := 1) (As := [.int (nI (2 * i + 1))]) (rest := []) CF hK hH (c_X9_legTime l G σ n sq hM sp hs (2 * i + 1) (by omega)) gX9_stripTime_X9_legTime rfl rfl rfl rfl (by decide +kernel) ⟨⟨Nat.le_of_ble_eq_true rfl, Nat.le_of_ble_eq_true rfl⟩, Nat.le_of_ble_eq_true rfl, Nat.le_of_ble_eq_true rfl⟩ 29 rfl (Nat.le_of_ble_eq_true rfl) rfl rfl rfl hl.1 rfl (Nat.le_of_ble_eq_true rfl) dX9_stripTime_22) (fun H locs hH hS => ?_)
      refine lv_goto (tgt := 30) hx hb dX9_stripTime_25 (by decide) ?_
      exact r_iret CF hr hlk hH hS dX9_stripTime_30 ⟨by have q1 : (2 * i + 1) / 2 = i := (by omega); have q2 : ea (2 * i + 1) = false := (by simp [ea]); rw [q1, q2]; simp [aST, c5, eiN, c13], rfl⟩
    · refine lv_iconst (v := 0) hx hb dX9_stripTime_16 (by decide) ?_
      refine r_top (show ((0) : Int32) = nI 0 from rfl) ?_
      refine lv_goto (tgt := 21) hx hb dX9_stripTime_17 (by decide) ?_
      refine lv_iadd hx hb dX9_stripTime_21 ?_
      refine r_top (show (((nI (2 * i)) + (nI 0)) : Int32) = nI (2 * i + 0) from nI_add _ _) ?_
      refine r_cR hS (r_runV (n := 1) (As := [.int (nI (2 * i + 0))]) (rest := []) CF hK hH (c_X9_legTime l G σ n sq hM sp hs (2 * i + 0) (by omega)) gX9_stripTime_X9_legTime rfl rfl rfl rfl (by decide +kernel) ⟨⟨Nat.le_of_ble_eq_true rfl, Nat.le_of_ble_eq_true rfl⟩, Nat.le_of_ble_eq_true rfl, Nat.le_of_ble_eq_true rfl⟩ 29 rfl (Nat.le_of_ble_eq_true rfl) rfl rfl rfl hl.1 rfl (Nat.le_of_ble_eq_true rfl) dX9_stripTime_22) (fun H locs hH hS => ?_)
      refine lv_goto (tgt := 30) hx hb dX9_stripTime_25 (by decide) ?_
      exact r_iret CF hr hlk hH hS dX9_stripTime_30 ⟨by have q1 : (2 * i + 0) / 2 = i := (by omega); have q2 : ea (2 * i + 0) = true := (by simp [ea]); rw [q1, q2]; simp [aST, c5, eiN, c13], rfl⟩

set_option maxRecDepth 100000 in
set_option maxHeartbeats 4000000 in
theorem c_X9_timeBy (l : Launch) (G : Gm) (σ : Sg) (n : Nat) (sq : Nat → S4) (hM : MS σ n sq) (sp : S4) (hs : AM σ sp) (r c : Nat) (hr10 : r < 10) (hc16 : c < 16) (k : Nat) (hk : k < 2 * n) : Met l yX9_timeBy wsX9_timeBy (rmO 1 22) (PP G [.ref (G.2.1 29), .int (nI r), .int (nI c), .int (nI k)] σ) (QI G (RV (nI (stF sp r c (sq (k / 2)) (ea k))) σ)) 0 0 (fr G) := by
  refine r_start (cc := cX9_timeBy) (maxL := 5) (ret := (some .int)) (by decide) rfl (Nat.le_of_ble_eq_true rfl) ?_
  intro pz ez sz mz below meth cz ls CF hr hlk hK hH hS hl
  have CF : CallFix pz mz cz cX9_timeBy 5 sz (List.toArray [.ref (G.2.1 29), .int (nI r), .int (nI c), .int (nI k)]) wsX9_timeBy RX9 := CF
  have hx := CF.1
  have hb := CF.2.1
  have hown := CF.2.2.2.1
  have hts := CF.2.2.2.2
  have hl : lv_has ls 5 [(0, .ref (G.2.1 29)), (1, .int (nI r)), (2, .int (nI c)), (3, .int (nI k))] := hl
  have K1 := hts _ (List.mem_of_getElem? (i := 1) rfl)
  have K2 := hts _ (List.mem_of_getElem? (i := 2) rfl)
  have K3 := hts _ (List.mem_of_getElem? (i := 3) rfl)
  have JX9 : ∀ w ∈ wsX90, w ∈ wsX9_timeBy := in_r _ [19, 20, 21, 22, 23, 24, 25, 26, 27, 28, 29, 30, 31, 32, 33, 34, 35, 36, 37, 38] (by decide +kernel)
  have hn := hM.1
  have hn8 := hM.2.1
  have hv := hM.2.2 (k / 2) (by omega)
  obtain ⟨s1, s2, s3, s4, p1, p2, p3, p4, p5, p6, p7⟩ := id hs
  have hen := enF_lt hv.2.2.2.2 (ea k)
  have hr0 := hv.2.2.2.2.1
  refine lv_iload_n hx hb dX9_timeBy_0 rfl (lv_at hl 1 rfl) ?_
  refine lv_aload_n hx hb dX9_timeBy_1 rfl (lv_at hl 0 rfl) ?_
  refine r_get CF hK hH 29 (Nat.le_of_ble_eq_true rfl) rfl rfl JX9 11 (by decide) K1 rfl dX9_timeBy_2 ?_
  refine lv_iload_n hx hb dX9_timeBy_5 rfl (lv_at hl 3 rfl) ?_
  refine lv_iconst (v := 2) hx hb dX9_timeBy_6 (by decide) ?_
  refine lv_idiv hx hb dX9_timeBy_7 (by decide) ?_
  refine r_top (show (((nI k) / (2 : Int32)) : Int32) = nI (k / 2) from half_nI (by omega)) ?_
  refine r_iald CF hK hH 31 (Nat.le_of_ble_eq_true rfl) rfl (Nat.le_of_ble_eq_true rfl) (k / 2) rfl (by omega) dX9_timeBy_8 ?_
  refine r_top (show (σ 31 (k / 2) : Int32) = nI (sq (k / 2)).1 from hv.1) ?_
  refine lv_isub hx hb dX9_timeBy_9 ?_
  refine r_cR hS (r_runS (n := 1) (As := [.int ((nI r) - (nI (sq (k / 2)).1))]) (rest := []) CF hK hH (c_X9_size l G σ ((nI r) - (nI (sq (k / 2)).1))) gX9_timeBy_X9_size rfl rfl rfl (by decide +kernel) ⟨⟨Nat.le_of_ble_eq_true rfl, Nat.le_of_ble_eq_true rfl⟩, Nat.le_of_ble_eq_true rfl, Nat.le_of_ble_eq_true rfl⟩ rfl hl.1 rfl (Nat.le_of_ble_eq_true rfl) dX9_timeBy_10) (fun H locs hH hS => ?_)
  refine r_top (show (ab ((nI r) - (nI (sq (k / 2)).1)) : Int32) = nI (ad1 (sq (k / 2)).1 r) from ad_ab (by omega) (by omega)) ?_
  refine lv_iload_n hx hb dX9_timeBy_13 rfl (lv_at hl 2 rfl) ?_
  refine lv_aload_n hx hb dX9_timeBy_14 rfl (lv_at hl 0 rfl) ?_
  refine lv_iload_n hx hb dX9_timeBy_15 rfl (lv_at hl 3 rfl) ?_
  refine r_cR hS (r_runV (n := 1) (As := [.int (nI k)]) (rest := [.int (nI c), .int (nI (ad1 (sq (k / 2)).1 r))]) CF hK hH (c_X9_entryColumn l G σ n sq hM sp hs k (by omega)) gX9_timeBy_X9_entryColumn rfl rfl rfl rfl (by decide +kernel) ⟨⟨Nat.le_of_ble_eq_true rfl, Nat.le_of_ble_eq_true rfl⟩, Nat.le_of_ble_eq_true rfl, Nat.le_of_ble_eq_true rfl⟩ 29 rfl (Nat.le_of_ble_eq_true rfl) rfl rfl rfl hl.1 rfl (Nat.le_of_ble_eq_true rfl) dX9_timeBy_16) (fun H locs hH hS => ?_)
  refine lv_isub hx hb dX9_timeBy_19 ?_
  refine r_cR hS (r_runS (n := 1) (As := [.int ((nI c) - (nI (enF (sq (k / 2)) (ea k))))]) (rest := [.int (nI (ad1 (sq (k / 2)).1 r))]) CF hK hH (c_X9_size l G σ ((nI c) - (nI (enF (sq (k / 2)) (ea k))))) gX9_timeBy_X9_size rfl rfl rfl (by decide +kernel) ⟨⟨Nat.le_of_ble_eq_true rfl, Nat.le_of_ble_eq_true rfl⟩, Nat.le_of_ble_eq_true rfl, Nat.le_of_ble_eq_true rfl⟩ rfl hl.1 rfl (Nat.le_of_ble_eq_true rfl) dX9_timeBy_20) (fun H locs hH hS => ?_)
  refine r_top (show (ab ((nI c) - (nI (enF (sq (k / 2)) (ea k)))) : Int32) = nI (ad1 (enF (sq (k / 2)) (ea k)) c) from ad_ab (by omega) (by omega)) ?_
  refine lv_iadd hx hb dX9_timeBy_23 ?_
  refine r_top (show (((nI (ad1 (sq (k / 2)).1 r)) + (nI (ad1 (enF (sq (k / 2)) (ea k)) c))) : Int32) = nI (ad1 (sq (k / 2)).1 r + ad1 (enF (sq (k / 2)) (ea k)) c) from nI_add _ _) ?_
  refine lv_istore (lv' := [(4, .int (nI (ad1 (sq (k / 2)).1 r + ad1 (enF (sq (k / 2)) (ea k)) c))), (0, .ref (G.2.1 29)), (1, .int (nI r)), (2, .int (nI c)), (3, .int (nI k))]) hx hb dX9_timeBy_24 hl (by decide) rfl (fun ls hl => ?_)
  refine lv_iload hx hb dX9_timeBy_26 (lv_at hl 0 rfl) ?_
  refine lv_sipush (v := 1000) hx hb dX9_timeBy_28 (by decide) ?_
  refine lv_imul hx hb dX9_timeBy_31 ?_
  refine r_top (show (((nI (ad1 (sq (k / 2)).1 r + ad1 (enF (sq (k / 2)) (ea k)) c)) * (1000 : Int32)) : Int32) = nI ((ad1 (sq (k / 2)).1 r + ad1 (enF (sq (k / 2)) (ea k)) c) * 1000) from (pk_mul _ 1000)) ?_
  refine lv_aload_n hx hb dX9_timeBy_32 rfl (lv_at hl 1 rfl) ?_
  refine r_get CF hK hH 29 (Nat.le_of_ble_eq_true rfl) rfl rfl JX9 6 (by decide) K2 rfl dX9_timeBy_33 ?_
  refine r_top (show (σ 29 6 : Int32) = nI sp.1 from s1) ?_
  refine lv_idiv hx hb dX9_timeBy_36 (nI_ne0 (by omega) (by omega)) ?_
  refine r_top (show (((nI ((ad1 (sq (k / 2)).1 r + ad1 (enF (sq (k / 2)) (ea k)) c) * 1000)) / (nI sp.1)) : Int32) = nI ((ad1 (sq (k / 2)).1 r + ad1 (enF (sq (k / 2)) (ea k)) c) * 1000 / sp.1) from (pk_div (by unfold ad1; omega) (by omega) (by omega))) ?_
  refine lv_aload_n hx hb dX9_timeBy_37 rfl (lv_at hl 1 rfl) ?_
  refine r_get CF hK hH 29 (Nat.le_of_ble_eq_true rfl) rfl rfl JX9 8 (by decide) K3 rfl dX9_timeBy_38 ?_
  refine r_top (show (σ 29 8 : Int32) = nI sp.2.1 from s2) ?_
  refine lv_iadd hx hb dX9_timeBy_41 ?_
  refine r_top (show (((nI ((ad1 (sq (k / 2)).1 r + ad1 (enF (sq (k / 2)) (ea k)) c) * 1000 / sp.1)) + (nI sp.2.1)) : Int32) = nI (trF sp r c (sq (k / 2)) (ea k)) from nI_add _ _) ?_
  refine lv_aload_n hx hb dX9_timeBy_42 rfl (lv_at hl 1 rfl) ?_
  refine lv_iload_n hx hb dX9_timeBy_43 rfl (lv_at hl 4 rfl) ?_
  refine r_cR hS (r_runV (n := 1) (As := [.int (nI k)]) (rest := [.int (nI (trF sp r c (sq (k / 2)) (ea k)))]) CF hK hH (c_X9_legTime l G σ n sq hM sp hs k (by omega)) gX9_timeBy_X9_legTime rfl rfl rfl rfl (by decide +kernel) ⟨⟨Nat.le_of_ble_eq_true rfl, Nat.le_of_ble_eq_true rfl⟩, Nat.le_of_ble_eq_true rfl, Nat.le_of_ble_eq_true rfl⟩ 29 rfl (Nat.le_of_ble_eq_true rfl) rfl rfl rfl hl.1 rfl (Nat.le_of_ble_eq_true rfl) dX9_timeBy_44) (fun H locs hH hS => ?_)
  refine lv_iadd hx hb dX9_timeBy_47 ?_
  exact r_iret CF hr hlk hH hS dX9_timeBy_48 ⟨nI_add _ _, rfl⟩

set_option maxRecDepth 100000 in
set_option maxHeartbeats 4000000 in
theorem c_X9_totalBy (l : Launch) (G : Gm) (σ : Sg) (n : Nat) (sq : Nat → S4) (hM : MS σ n sq) (sp : S4) (hs : AM σ sp) (r c : Nat) (hr10 : r < 10) (hc16 : c < 16) (m : Nat) (hm : m < 2 ^ n) (f : Nat → Nat) (hf : ∀ l, l < 2 * n → has m (l / 2) = true → ∃ t, σ 36 (16 * rmv m (l / 2) + l) = nI t ∧ f l = stF sp r c (sq (l / 2)) (ea l) + t) (k : Nat) (hk : k < 2 * n) (hh : has m (k / 2) = true) : Met l yX9_totalBy wsX9_totalBy (rmO 2 46) (PP G [.ref (G.2.1 29), .int (nI r), .int (nI c), .int (nI m), .int (nI k)] σ) (QI G (RV (nI (f k)) σ)) 0 0 (fr G) := by
  refine r_start (cc := cX9_totalBy) (maxL := 5) (ret := (some .int)) (by decide) rfl (Nat.le_of_ble_eq_true rfl) ?_
  intro pz ez sz mz below meth cz ls CF hr hlk hK hH hS hl
  have CF : CallFix pz mz cz cX9_totalBy 5 sz (List.toArray [.ref (G.2.1 29), .int (nI r), .int (nI c), .int (nI m), .int (nI k)]) wsX9_totalBy RX9 := CF
  have hx := CF.1
  have hb := CF.2.1
  have hown := CF.2.2.2.1
  have hts := CF.2.2.2.2
  have hl : lv_has ls 5 [(0, .ref (G.2.1 29)), (1, .int (nI r)), (2, .int (nI c)), (3, .int (nI m)), (4, .int (nI k))] := hl
  have K1 := hts _ (List.mem_of_getElem? (i := 1) rfl)
  have JX9 : ∀ w ∈ wsX90, w ∈ wsX9_totalBy := in_r _ [24, 25, 26, 27, 28, 29, 30, 31, 32, 33, 34, 35, 36, 37, 38, 39, 40, 41, 42, 43] (by decide +kernel)
  have hn8 := hM.2.1
  have h8 := pow_le8 hn8
  have hrl := rmv_le m (k / 2)
  obtain ⟨t, ht1, ht2⟩ := hf k hk hh
  refine lv_aload_n hx hb dX9_totalBy_0 rfl (lv_at hl 0 rfl) ?_
  refine lv_iload_n hx hb dX9_totalBy_1 rfl (lv_at hl 1 rfl) ?_
  refine lv_iload_n hx hb dX9_totalBy_2 rfl (lv_at hl 2 rfl) ?_
  refine lv_iload hx hb dX9_totalBy_3 (lv_at hl 4 rfl) ?_
  refine r_cR hS (r_runV (n := 3) (As := [.int (nI r), .int (nI c), .int (nI k)]) (rest := []) CF hK hH (c_X9_timeBy l G σ n sq hM sp hs r c (by omega) (by omega) k (by omega)) gX9_totalBy_X9_timeBy rfl rfl rfl rfl (by decide +kernel) ⟨⟨Nat.le_of_ble_eq_true rfl, Nat.le_of_ble_eq_true rfl⟩, Nat.le_of_ble_eq_true rfl, Nat.le_of_ble_eq_true rfl⟩ 29 rfl (Nat.le_of_ble_eq_true rfl) rfl rfl rfl hl.1 rfl (Nat.le_of_ble_eq_true rfl) dX9_totalBy_5) (fun H locs hH hS => ?_)
  refine lv_aload_n hx hb dX9_totalBy_8 rfl (lv_at hl 0 rfl) ?_
  refine r_get CF hK hH 29 (Nat.le_of_ble_eq_true rfl) rfl rfl JX9 19 (by decide) K1 rfl dX9_totalBy_9 ?_
  refine lv_bipush (v := 16) hx hb dX9_totalBy_12 (by decide) ?_
  refine lv_iload_n hx hb dX9_totalBy_14 rfl (lv_at hl 3 rfl) ?_
  refine lv_iconst (v := 1) hx hb dX9_totalBy_15 (by decide) ?_
  refine lv_iload hx hb dX9_totalBy_16 (lv_at hl 4 rfl) ?_
  refine lv_iconst (v := 2) hx hb dX9_totalBy_18 (by decide) ?_
  refine lv_idiv hx hb dX9_totalBy_19 (by decide) ?_
  refine r_top (show (((nI k) / (2 : Int32)) : Int32) = nI (k / 2) from half_nI (by omega)) ?_
  refine lv_ishl hx hb dX9_totalBy_20 ?_
  refine lv_iconst (v := (-1)) hx hb dX9_totalBy_21 (by decide) ?_
  refine lv_ixor hx hb dX9_totalBy_22 ?_
  refine lv_iand hx hb dX9_totalBy_23 ?_
  refine r_top (show (((nI m) &&& (((1 : Int32) <<< ((nI (k / 2)) &&& 31)) ^^^ (-1 : Int32))) : Int32) = nI (rmv m (k / 2)) from rmv_nI8 m (by omega) (k / 2) (by omega)) ?_
  refine lv_imul hx hb dX9_totalBy_24 ?_
  refine lv_iload hx hb dX9_totalBy_25 (lv_at hl 4 rfl) ?_
  refine lv_iadd hx hb dX9_totalBy_27 ?_
  refine r_top (show ((((16 : Int32) * (nI (rmv m (k / 2)))) + (nI k)) : Int32) = nI (16 * rmv m (k / 2) + k) from ix16b _ _) ?_
  refine r_iald CF hK hH 36 (Nat.le_of_ble_eq_true rfl) rfl (Nat.le_of_ble_eq_true rfl) (16 * rmv m (k / 2) + k) rfl (by omega) dX9_totalBy_28 ?_
  refine r_top (show (σ 36 (16 * rmv m (k / 2) + k) : Int32) = nI t from ht1) ?_
  refine lv_iadd hx hb dX9_totalBy_29 ?_
  exact r_iret CF hr hlk hH hS dX9_totalBy_30 ⟨by rw [ht2, nI_add], rfl⟩

def leO (o : Option (Nat × Nat)) : Int32 := match o with
  | none => 100000000
  | some a => nI a.2
theorem le_n {f : Nat → Nat} {m k : Nat} (h : has m (k / 2) = false) : leO (lsF f m (k + 1)) = leO (lsF f m k) := by rw [ls_n h]
theorem le_s {f : Nat → Nat} {m k : Nat} (h : has m (k / 2) = true) (hf : f k < 100000000) (hb : ∀ l, l < k → has m (l / 2) = true → f l < 100000000) : (nI (f k) < leO (lsF f m k) → leO (lsF f m (k + 1)) = nI (f k)) ∧ (¬ nI (f k) < leO (lsF f m k) → leO (lsF f m (k + 1)) = leO (lsF f m k)) := by
  simp only [lsF, h, if_true]
  cases hq : lsF f m k with
  | none =>
    refine ⟨fun _ => rfl, fun q => absurd ?_ q⟩
    exact nI_lt (a := f k) (b := 100000000) hf (by omega)
  | some a =>
    obtain ⟨a1, a2, a3, -, -⟩ := lsF_some hq
    have hlt : a.2 < 100000000 := by rw [a3]; exact hb a.1 a1 a2
    dsimp only
    constructor
    · intro q
      have q2 : f k < a.2 := (nI_ltI (by omega) (by omega)).mp q
      rw [if_pos q2]; rfl
    · intro q
      have q2 : ¬ f k < a.2 := fun z => q (nI_lt z (by omega))
      rw [if_neg q2]

set_option maxRecDepth 100000 in
set_option maxHeartbeats 4000000 in
theorem c_X9_leastFrom (l : Launch) (G : Gm) (σ : Sg) (n : Nat) (sq : Nat → S4) (hM : MS σ n sq) (sp : S4) (hs : AM σ sp) (r c : Nat) (hr10 : r < 10) (hc16 : c < 16) (m : Nat) (hm : m < 2 ^ n) (f : Nat → Nat) (hf : ∀ l, l < 2 * n → has m (l / 2) = true → ∃ t, σ 36 (16 * rmv m (l / 2) + l) = nI t ∧ f l = stF sp r c (sq (l / 2)) (ea l) + t) (hfb : ∀ l, l < 2 * n → has m (l / 2) = true → f l < 100000000) : Met l yX9_leastFrom wsX9_leastFrom (rmO 3 70) (PP G [.ref (G.2.1 29), .int (nI r), .int (nI c), .int (nI m)] σ) (QI G (RV (leO (lsF f m (2 * n))) σ)) 0 0 (fr G) := by
  refine r_start (cc := cX9_leastFrom) (maxL := 7) (ret := (some .int)) (by decide) rfl (Nat.le_of_ble_eq_true rfl) ?_
  intro pz ez sz mz below meth cz ls CF hr hlk hK hH hS hl
  have CF : CallFix pz mz cz cX9_leastFrom 7 sz (List.toArray [.ref (G.2.1 29), .int (nI r), .int (nI c), .int (nI m)]) wsX9_leastFrom RX9 := CF
  have hx := CF.1
  have hb := CF.2.1
  have hown := CF.2.2.2.1
  have hts := CF.2.2.2.2
  have hl : lv_has ls 7 [(0, .ref (G.2.1 29)), (1, .int (nI r)), (2, .int (nI c)), (3, .int (nI m))] := hl
  have K1 := hts _ (List.mem_of_getElem? (i := 1) rfl)
  have K2 := hts _ (List.mem_of_getElem? (i := 2) rfl)
  have JX9 : ∀ w ∈ wsX90, w ∈ wsX9_leastFrom := in_r _ [30, 31, 32, 33, 34, 35, 36, 37, 38, 39, 40, 41, 42, 43, 44, 45, 46, 47, 48, 49] (by decide +kernel)
  have hn := hM.1
  have hn8 := hM.2.1
  have h8 := pow_le8 hn8
  refine lv_ldc (v := 100000000) hx hb hown K1 dX9_leastFrom_0 ?_
  refine lv_istore (lv' := [(4, .int (100000000 : Int32)), (0, .ref (G.2.1 29)), (1, .int (nI r)), (2, .int (nI c)), (3, .int (nI m))]) hx hb dX9_leastFrom_2 hl (by decide) rfl (fun ls hl => ?_)
  refine lv_iconst (v := 0) hx hb dX9_leastFrom_4 (by decide) ?_
  refine lv_istore (lv' := [(5, .int (0 : Int32)), (4, .int (100000000 : Int32)), (0, .ref (G.2.1 29)), (1, .int (nI r)), (2, .int (nI c)), (3, .int (nI m))]) hx hb dX9_leastFrom_5 hl (by decide) rfl (fun ls hl => ?_)
  have lp7 : ∀ (fu : Nat) (k : Nat) (x4 : Int32) (H : Heap) (locs : List Loc) (ls : Array Slot), (2 * n + 1 ≤ k + fu) → (k ≤ 2 * n) → (x4 = leO (lsF f m (k))) → Hp G σ H → va_S (fr G) sz.heap H locs → lv_has ls 7 [(0, .ref (G.2.1 29)), (1, .int (nI r)), (2, .int (nI c)), (3, .int (nI m)), (4, .int x4), (5, .int (nI k))] → W pz l ez (rmO 3 70) sz mz (List.toArray [.ref (G.2.1 29), .int (nI r), .int (nI c), .int (nI m)]) below meth cz H locs 0 0 (MQ below (QI G (RV (leO (lsF f m (2 * n))) σ)) (List.toArray [.ref (G.2.1 29), .int (nI r), .int (nI c), .int (nI m)]) sz 0 0 (fr G)) (F0 mz 7 ls []) := by
    intro fu
    induction fu with
    | zero => intros; omega
    | succ fu ih7 =>
      intro k x4 H locs ls hfu hk h4 hH hS hl
      refine lv_iload hx hb dX9_leastFrom_7 (lv_at hl 5 rfl) ?_
      refine lv_iconst (v := 2) hx hb dX9_leastFrom_9 (by decide) ?_
      refine lv_aload_n hx hb dX9_leastFrom_10 rfl (lv_at hl 0 rfl) ?_
      refine r_get CF hK hH 29 (Nat.le_of_ble_eq_true rfl) rfl rfl JX9 10 (by decide) K2 rfl dX9_leastFrom_11 ?_
      refine r_top (show (σ 29 10 : Int32) = nI n from hn) ?_
      refine lv_imul hx hb dX9_leastFrom_14 ?_
      refine r_top (show (((2 : Int32) * (nI n)) : Int32) = nI (2 * n) from (pk_mul 2 n)) ?_
      refine lv_icmp_ge (tgt := 63) hx hb dX9_leastFrom_15 (by decide) (fun c15 => ?_) (fun c15 => ?_)
      · have c15 : (2 * n) ≤ k := (nI_leI (a := (2 * n)) (b := k) (by omega) (by omega)).mp c15
        refine lv_iload hx hb dX9_leastFrom_63 (lv_at hl 4 rfl) ?_
        exact r_iret CF hr hlk hH hS dX9_leastFrom_65 ⟨by have e : k = 2 * n := (by omega); rw [h4, e], rfl⟩
      · have c15 : k < (2 * n) := Nat.lt_of_not_le (fun zq => c15 ((nI_leI (a := (2 * n)) (b := k) (by omega) (by omega)).mpr zq))
        refine lv_iload_n hx hb dX9_leastFrom_18 rfl (lv_at hl 3 rfl) ?_
        refine lv_iload hx hb dX9_leastFrom_19 (lv_at hl 5 rfl) ?_
        refine lv_iconst (v := 2) hx hb dX9_leastFrom_21 (by decide) ?_
        refine lv_idiv hx hb dX9_leastFrom_22 (by decide) ?_
        refine r_top (show (((nI k) / (2 : Int32)) : Int32) = nI (k / 2) from half_nI (by omega)) ?_
        refine lv_ishr hx hb dX9_leastFrom_23 ?_
        refine lv_iconst (v := 1) hx hb dX9_leastFrom_24 (by decide) ?_
        refine lv_iand hx hb dX9_leastFrom_25 ?_
        refine r_top (show ((((nI m) >>> ((nI (k / 2)) &&& 31)) &&& (1 : Int32)) : Int32) = nI (m / 2 ^ (k / 2) % 2) from has_nI8 m (by omega) (k / 2) (by omega)) ?_
        refine lv_iconst (v := 1) hx hb dX9_leastFrom_26 (by decide) ?_
        refine lv_icmp_ne (tgt := 57) hx hb dX9_leastFrom_27 (by decide) (fun c27 => ?_) (fun c27 => ?_)
        · have hh : has m (k / 2) = false := (by have q : ¬ m / 2 ^ (k / 2) % 2 = 1 := fun zq => c27 (by rw [zq]; rfl); simp [has, q])
          refine lv_iinc (v := nI (k + 1)) (lv' := [(5, .int (nI (k + 1))), (0, .ref (G.2.1 29)), (1, .int (nI r)), (2, .int (nI c)), (3, .int (nI m)), (4, .int x4)]) hx hb dX9_leastFrom_57 hl (k := 5) rfl (nI_1 _) (by decide) rfl (fun ls hl => ?_)
          refine lv_goto (tgt := 7) hx hb dX9_leastFrom_60 (by decide) ?_
          exact ih7 (k + 1) x4 _ _ ls (by omega) (by omega) (by rw [le_n hh]; exact h4) hH hS (lv_sub hl [1, 2, 3, 4, 5, 0] rfl)
        · have hh : has m (k / 2) = true := (by have q : m / 2 ^ (k / 2) % 2 = 1 := (nI_eq (b := 1) (by omega) (by omega)).mp c27; simp [has, q])
          have hls := le_s hh (hfb k c15 hh) (fun l hl hq => hfb l (by omega) hq)
          refine lv_aload_n hx hb dX9_leastFrom_30 rfl (lv_at hl 0 rfl) ?_
          refine lv_iload_n hx hb dX9_leastFrom_31 rfl (lv_at hl 1 rfl) ?_
          refine lv_iload_n hx hb dX9_leastFrom_32 rfl (lv_at hl 2 rfl) ?_
          refine lv_iload_n hx hb dX9_leastFrom_33 rfl (lv_at hl 3 rfl) ?_
          refine lv_iload hx hb dX9_leastFrom_34 (lv_at hl 5 rfl) ?_
          refine r_cR hS (r_runV (n := 4) (As := [.int (nI r), .int (nI c), .int (nI m), .int (nI k)]) (rest := []) CF hK hH (c_X9_totalBy l G σ n sq hM sp hs r c hr10 hc16 m hm f hf k (by omega) hh) gX9_leastFrom_X9_totalBy rfl rfl rfl rfl (by decide +kernel) ⟨⟨Nat.le_of_ble_eq_true rfl, Nat.le_of_ble_eq_true rfl⟩, Nat.le_of_ble_eq_true rfl, Nat.le_of_ble_eq_true rfl⟩ 29 rfl (Nat.le_of_ble_eq_true rfl) rfl rfl rfl hl.1 rfl (Nat.le_of_ble_eq_true rfl) dX9_leastFrom_36) (fun H locs hH hS => ?_)
          refine lv_istore (lv' := [(6, .int (nI (f k))), (0, .ref (G.2.1 29)), (1, .int (nI r)), (2, .int (nI c)), (3, .int (nI m)), (4, .int x4), (5, .int (nI k))]) hx hb dX9_leastFrom_39 hl (by decide) rfl (fun ls hl => ?_)
          refine lv_iload hx hb dX9_leastFrom_41 (lv_at hl 0 rfl) ?_
          refine lv_iload hx hb dX9_leastFrom_43 (lv_at hl 5 rfl) ?_
          refine lv_icmp_ge (tgt := 53) hx hb dX9_leastFrom_45 (by decide) (fun c45 => ?_) (fun c45 => ?_)
          · have c45 := Int32.not_lt.mpr c45
            refine lv_iload hx hb dX9_leastFrom_53 (lv_at hl 5 rfl) ?_
            refine lv_istore (lv' := [(4, .int x4), (6, .int (nI (f k))), (0, .ref (G.2.1 29)), (1, .int (nI r)), (2, .int (nI c)), (3, .int (nI m)), (5, .int (nI k))]) hx hb dX9_leastFrom_55 hl (by decide) rfl (fun ls hl => ?_)
            refine lv_iinc (v := nI (k + 1)) (lv' := [(5, .int (nI (k + 1))), (4, .int x4), (6, .int (nI (f k))), (0, .ref (G.2.1 29)), (1, .int (nI r)), (2, .int (nI c)), (3, .int (nI m))]) hx hb dX9_leastFrom_57 hl (k := 6) rfl (nI_1 _) (by decide) rfl (fun ls hl => ?_)
            refine lv_goto (tgt := 7) hx hb dX9_leastFrom_60 (by decide) ?_
            exact ih7 (k + 1) x4 _ _ ls (by omega) (by omega) (by rw [hls.2 (by rw [← h4]; exact c45)]; exact h4) hH hS (lv_sub hl [3, 4, 5, 6, 1, 0] rfl)
          · have c45 := Int32.not_le.mp c45
            refine lv_iload hx hb dX9_leastFrom_48 (lv_at hl 0 rfl) ?_
            refine lv_goto (tgt := 55) hx hb dX9_leastFrom_50 (by decide) ?_
            refine lv_istore (lv' := [(4, .int (nI (f k))), (6, .int (nI (f k))), (0, .ref (G.2.1 29)), (1, .int (nI r)), (2, .int (nI c)), (3, .int (nI m)), (5, .int (nI k))]) hx hb dX9_leastFrom_55 hl (by decide) rfl (fun ls hl => ?_)
            refine lv_iinc (v := nI (k + 1)) (lv' := [(5, .int (nI (k + 1))), (4, .int (nI (f k))), (6, .int (nI (f k))), (0, .ref (G.2.1 29)), (1, .int (nI r)), (2, .int (nI c)), (3, .int (nI m))]) hx hb dX9_leastFrom_57 hl (k := 6) rfl (nI_1 _) (by decide) rfl (fun ls hl => ?_)
            refine lv_goto (tgt := 7) hx hb dX9_leastFrom_60 (by decide) ?_
            exact ih7 (k + 1) (nI (f k)) _ _ ls (by omega) (by omega) (hls.1 (by rw [← h4]; exact c45)).symm hH hS (lv_sub hl [3, 4, 5, 6, 1, 0] rfl)
  exact lp7 (2 * n + 1) 0 (100000000 : Int32) _ _ ls (by omega) (by omega) rfl hH hS (lv_sub hl [2, 3, 4, 5, 1, 0] rfl)

set_option maxRecDepth 100000 in
set_option maxHeartbeats 4000000 in
theorem c_X9_firstLeg (l : Launch) (G : Gm) (σ : Sg) (n : Nat) (sq : Nat → S4) (hM : MS σ n sq) (sp : S4) (hs : AM σ sp) (r c : Nat) (hr10 : r < 10) (hc16 : c < 16) (m : Nat) (hm : m < 2 ^ n) (f : Nat → Nat) (hf : ∀ l, l < 2 * n → has m (l / 2) = true → ∃ t, σ 36 (16 * rmv m (l / 2) + l) = nI t ∧ f l = stF sp r c (sq (l / 2)) (ea l) + t) (hfb : ∀ l, l < 2 * n → has m (l / 2) = true → f l < 100000000) (aa : Nat × Nat) (haa : lsF f m (2 * n) = some aa) : Met l yX9_firstLeg wsX9_firstLeg (rmO 4 96) (PP G [.ref (G.2.1 29), .int (nI r), .int (nI c), .int (nI m)] σ) (QI G (RV (nI aa.1) σ)) 0 0 (fr G) := by
  refine r_start (cc := cX9_firstLeg) (maxL := 6) (ret := (some .int)) (by decide) rfl (Nat.le_of_ble_eq_true rfl) ?_
  intro pz ez sz mz below meth cz ls CF hr hlk hK hH hS hl
  have CF : CallFix pz mz cz cX9_firstLeg 6 sz (List.toArray [.ref (G.2.1 29), .int (nI r), .int (nI c), .int (nI m)]) wsX9_firstLeg RX9 := CF
  have hx := CF.1
  have hb := CF.2.1
  have hown := CF.2.2.2.1
  have hts := CF.2.2.2.2
  have hl : lv_has ls 6 [(0, .ref (G.2.1 29)), (1, .int (nI r)), (2, .int (nI c)), (3, .int (nI m))] := hl
  have hn := hM.1
  have hn8 := hM.2.1
  have h8 := pow_le8 hn8
  obtain ⟨g1, g2, g3, g4, g5⟩ := lsF_some haa
  have gb := hfb aa.1 g1 g2
  refine lv_aload_n hx hb dX9_firstLeg_0 rfl (lv_at hl 0 rfl) ?_
  refine lv_iload_n hx hb dX9_firstLeg_1 rfl (lv_at hl 1 rfl) ?_
  refine lv_iload_n hx hb dX9_firstLeg_2 rfl (lv_at hl 2 rfl) ?_
  refine lv_iload_n hx hb dX9_firstLeg_3 rfl (lv_at hl 3 rfl) ?_
  refine r_cR hS (r_runV (n := 3) (As := [.int (nI r), .int (nI c), .int (nI m)]) (rest := []) CF hK hH (c_X9_leastFrom l G σ n sq hM sp hs r c hr10 hc16 m hm f hf hfb) gX9_firstLeg_X9_leastFrom rfl rfl rfl rfl (by decide +kernel) ⟨⟨Nat.le_of_ble_eq_true rfl, Nat.le_of_ble_eq_true rfl⟩, Nat.le_of_ble_eq_true rfl, Nat.le_of_ble_eq_true rfl⟩ 29 rfl (Nat.le_of_ble_eq_true rfl) rfl rfl rfl hl.1 rfl (Nat.le_of_ble_eq_true rfl) dX9_firstLeg_4) (fun H locs hH hS => ?_)
  refine r_top (show (leO (lsF f m (2 * n)) : Int32) = nI aa.2 from (by rw [haa]; rfl)) ?_
  refine lv_istore (lv' := [(4, .int (nI aa.2)), (0, .ref (G.2.1 29)), (1, .int (nI r)), (2, .int (nI c)), (3, .int (nI m))]) hx hb dX9_firstLeg_7 hl (by decide) rfl (fun ls hl => ?_)
  refine lv_iconst (v := 0) hx hb dX9_firstLeg_9 (by decide) ?_
  refine lv_istore (lv' := [(5, .int (0 : Int32)), (4, .int (nI aa.2)), (0, .ref (G.2.1 29)), (1, .int (nI r)), (2, .int (nI c)), (3, .int (nI m))]) hx hb dX9_firstLeg_10 hl (by decide) rfl (fun ls hl => ?_)
  have lp12 : ∀ (fu : Nat) (k : Nat) (H : Heap) (locs : List Loc) (ls : Array Slot), (aa.1 + 1 ≤ k + fu) → (k ≤ aa.1) → Hp G σ H → va_S (fr G) sz.heap H locs → lv_has ls 6 [(0, .ref (G.2.1 29)), (1, .int (nI r)), (2, .int (nI c)), (3, .int (nI m)), (4, .int (nI aa.2)), (5, .int (nI k))] → W pz l ez (rmO 4 96) sz mz (List.toArray [.ref (G.2.1 29), .int (nI r), .int (nI c), .int (nI m)]) below meth cz H locs 0 0 (MQ below (QI G (RV (nI aa.1) σ)) (List.toArray [.ref (G.2.1 29), .int (nI r), .int (nI c), .int (nI m)]) sz 0 0 (fr G)) (F0 mz 12 ls []) := by
    intro fu
    induction fu with
    | zero => intros; omega
    | succ fu ih12 =>
      intro k H locs ls hfu hk hH hS hl
      refine lv_iload_n hx hb dX9_firstLeg_12 rfl (lv_at hl 3 rfl) ?_
      refine lv_iload hx hb dX9_firstLeg_13 (lv_at hl 5 rfl) ?_
      refine lv_iconst (v := 2) hx hb dX9_firstLeg_15 (by decide) ?_
      refine lv_idiv hx hb dX9_firstLeg_16 (by decide) ?_
      refine r_top (show (((nI k) / (2 : Int32)) : Int32) = nI (k / 2) from half_nI (by omega)) ?_
      refine lv_ishr hx hb dX9_firstLeg_17 ?_
      refine lv_iconst (v := 1) hx hb dX9_firstLeg_18 (by decide) ?_
      refine lv_iand hx hb dX9_firstLeg_19 ?_
      refine r_top (show ((((nI m) >>> ((nI (k / 2)) &&& 31)) &&& (1 : Int32)) : Int32) = nI (m / 2 ^ (k / 2) % 2) from has_nI8 m (by omega) (k / 2) (by omega)) ?_
      refine lv_if_eq (tgt := 37) hx hb dX9_firstLeg_20 (by decide) (fun c20 => ?_) (fun c20 => ?_)
      · have hh : has m (k / 2) = false := (by have q : m / 2 ^ (k / 2) % 2 = 0 := (nI_eq (b := 0) (by omega) (by omega)).mp c20; simp [has, q])
        refine lv_iinc (v := nI (k + 1)) (lv' := [(5, .int (nI (k + 1))), (0, .ref (G.2.1 29)), (1, .int (nI r)), (2, .int (nI c)), (3, .int (nI m)), (4, .int (nI aa.2))]) hx hb dX9_firstLeg_37 hl (k := 5) rfl (nI_1 _) (by decide) rfl (fun ls hl => ?_)
        refine lv_goto (tgt := 12) hx hb dX9_firstLeg_40 (by decide) ?_
        exact ih12 (k + 1) _ _ ls (by omega) (by have q : k ≠ aa.1 := (fun e => by rw [e, g2] at hh; cases hh); omega) hH hS (lv_sub hl [1, 2, 3, 4, 5, 0] rfl)
      · have hh : has m (k / 2) = true := (by have q : ¬ m / 2 ^ (k / 2) % 2 = 0 := fun zq => c20 (by rw [zq]; rfl); have q2 : m / 2 ^ (k / 2) % 2 = 1 := (by omega); simp [has, q2])
        have hfk := hfb k (by omega) hh
        refine lv_aload_n hx hb dX9_firstLeg_23 rfl (lv_at hl 0 rfl) ?_
        refine lv_iload_n hx hb dX9_firstLeg_24 rfl (lv_at hl 1 rfl) ?_
        refine lv_iload_n hx hb dX9_firstLeg_25 rfl (lv_at hl 2 rfl) ?_
        refine lv_iload_n hx hb dX9_firstLeg_26 rfl (lv_at hl 3 rfl) ?_
        refine lv_iload hx hb dX9_firstLeg_27 (lv_at hl 5 rfl) ?_
        refine r_cR hS (r_runV (n := 4) (As := [.int (nI r), .int (nI c), .int (nI m), .int (nI k)]) (rest := []) CF hK hH (c_X9_totalBy l G σ n sq hM sp hs r c hr10 hc16 m hm f hf k (by omega) hh) gX9_firstLeg_X9_totalBy rfl rfl rfl rfl (by decide +kernel) ⟨⟨Nat.le_of_ble_eq_true rfl, Nat.le_of_ble_eq_true rfl⟩, Nat.le_of_ble_eq_true rfl, Nat.le_of_ble_eq_true rfl⟩ 29 rfl (Nat.le_of_ble_eq_true rfl) rfl rfl rfl hl.1 rfl (Nat.le_of_ble_eq_true rfl) dX9_firstLeg_29) (fun H locs hH hS => ?_)
        refine lv_iload hx hb dX9_firstLeg_32 (lv_at hl 4 rfl) ?_
        refine lv_icmp_eq (tgt := 43) hx hb dX9_firstLeg_34 (by decide) (fun c34 => ?_) (fun c34 => ?_)
        · have c34 : f k = aa.2 := (nI_eq (by omega) (by omega)).mp c34
          refine lv_iload hx hb dX9_firstLeg_43 (lv_at hl 5 rfl) ?_
          exact r_iret CF hr hlk hH hS dX9_firstLeg_45 ⟨by have e : k = aa.1 := (by rcases Nat.lt_or_ge k aa.1 with q | q; have := g5 k q hh; omega; omega); rw [e], rfl⟩
        · have c34 : ¬ f k = aa.2 := fun zq => c34 (by rw [zq])
          refine lv_iinc (v := nI (k + 1)) (lv' := [(5, .int (nI (k + 1))), (0, .ref (G.2.1 29)), (1, .int (nI r)), (2, .int (nI c)), (3, .int (nI m)), (4, .int (nI aa.2))]) hx hb dX9_firstLeg_37 hl (k := 5) rfl (nI_1 _) (by decide) rfl (fun ls hl => ?_)
          refine lv_goto (tgt := 12) hx hb dX9_firstLeg_40 (by decide) ?_
          exact ih12 (k + 1) _ _ ls (by omega) (by have q : k ≠ aa.1 := (fun e => c34 (by rw [e]; exact g3.symm)); omega) hH hS (lv_sub hl [1, 2, 3, 4, 5, 0] rfl)
  exact lp12 (aa.1 + 1) 0 _ _ ls (by omega) (by omega) hH hS (lv_sub hl [2, 3, 4, 5, 1, 0] rfl)
