/-! ===== the reference ===== -/
def MV (σ : Sg) (i : Nat) (q : S4) : Prop := σ 31 i = nI q.1 ∧ σ 32 i = nI q.2.1 ∧ σ 33 i = nI q.2.2.1 ∧ σ 34 i = nI q.2.2.2 ∧ okS q
def MS (σ : Sg) (n : Nat) (sq : Nat → S4) : Prop := σ 29 10 = nI n ∧ n ≤ 8 ∧ ∀ i, i < n → MV σ i (sq i)
def MA (σ : Sg) (R C n : Nat) (sq : Nat → S4) : Prop := σ 29 0 = nI R ∧ σ 29 1 = nI C ∧ 3 ≤ R ∧ R ≤ 10 ∧ 4 ≤ C ∧ C ≤ 16 ∧ MS σ n sq
def cmM (σ : Sg) : Cm := (σ 29 2, σ 29 3, σ 29 4, σ 29 5)
theorem isW_inB (x : Int32) {n : Nat} (h : n < 2 ^ 31) : isW x 0 (nI n - 1) = inB x n := by
  have h0 := nI_pos' h
  unfold isW inB
  have e : (nI n - 1 < x) ↔ (nI n ≤ x) := by
    revert h0; generalize nI n = k; intro h0; grind
  simp only [e]
theorem ix16b (r c : Nat) : (16 : Int32) * nI r + nI c = nI (16 * r + c) := by rw [n16, pk_mul, nI_add]

set_option maxRecDepth 100000 in
set_option maxHeartbeats 4000000 in
theorem c_X9_isBetween (l : Launch) (G : Gm) (σ : Sg) (v a b : Int32) : Met l yX9_isBetween wsX9_isBetween (rmO 0 0) (PP G [.int v, .int a, .int b] σ) (QI G (RV (b2i (isW v a b)) σ)) 0 0 (fr G) := by
  refine r_start (cc := cX9_isBetween) (maxL := 3) (ret := (some .boolean)) (by decide) rfl (Nat.le_of_ble_eq_true rfl) ?_
  intro pz ez sz mz below meth cz ls CF hr hlk hK hH hS hl
  have CF : CallFix pz mz cz cX9_isBetween 3 sz (List.toArray [.int v, .int a, .int b]) wsX9_isBetween RX9 := CF
  have hx := CF.1
  have hb := CF.2.1
  have hown := CF.2.2.2.1
  have hts := CF.2.2.2.2
  have hl : lv_has ls 3 [(0, .int v), (1, .int a), (2, .int b)] := hl
  refine lv_iload_n hx hb dX9_isBetween_0 rfl (lv_at hl 0 rfl) ?_
  refine lv_iload_n hx hb dX9_isBetween_1 rfl (lv_at hl 1 rfl) ?_
  refine lv_icmp_lt (tgt := 14) hx hb dX9_isBetween_2 (by decide) (fun c2 => ?_) (fun c2 => ?_)
  · refine lv_iconst (v := 0) hx hb dX9_isBetween_14 (by decide) ?_
    exact r_zret CF hr hlk hH hS rfl dX9_isBetween_15 ⟨by simp [isW, b2i, c2], rfl⟩
  · refine lv_iload_n hx hb dX9_isBetween_5 rfl (lv_at hl 0 rfl) ?_
    refine lv_iload_n hx hb dX9_isBetween_6 rfl (lv_at hl 2 rfl) ?_
    refine lv_icmp_gt (tgt := 14) hx hb dX9_isBetween_7 (by decide) (fun c7 => ?_) (fun c7 => ?_)
    · refine lv_iconst (v := 0) hx hb dX9_isBetween_14 (by decide) ?_
      exact r_zret CF hr hlk hH hS rfl dX9_isBetween_15 ⟨by simp [isW, b2i, c2, c7], rfl⟩
    · refine lv_iconst (v := 1) hx hb dX9_isBetween_10 (by decide) ?_
      refine lv_goto (tgt := 15) hx hb dX9_isBetween_11 (by decide) ?_
      exact r_zret CF hr hlk hH hS rfl dX9_isBetween_15 ⟨by simp [isW, b2i, c2, c7], rfl⟩

set_option maxRecDepth 100000 in
set_option maxHeartbeats 4000000 in
theorem c_X9_size (l : Launch) (G : Gm) (σ : Sg) (v : Int32) : Met l yX9_size wsX9_size (rmO 0 0) (PP G [.int v] σ) (QI G (RV (ab v) σ)) 0 0 (fr G) := by
  refine r_start (cc := cX9_size) (maxL := 1) (ret := (some .int)) (by decide) rfl (Nat.le_of_ble_eq_true rfl) ?_
  intro pz ez sz mz below meth cz ls CF hr hlk hK hH hS hl
  have CF : CallFix pz mz cz cX9_size 1 sz (List.toArray [.int v]) wsX9_size RX9 := CF
  have hx := CF.1
  have hb := CF.2.1
  have hown := CF.2.2.2.1
  have hts := CF.2.2.2.2
  have hl : lv_has ls 1 [(0, .int v)] := hl
  refine lv_iload_n hx hb dX9_size_0 rfl (lv_at hl 0 rfl) ?_
  refine lv_if_ge (tgt := 9) hx hb dX9_size_1 (by decide) (fun c1 => ?_) (fun c1 => ?_)
  · refine lv_iload_n hx hb dX9_size_9 rfl (lv_at hl 0 rfl) ?_
    exact r_iret CF hr hlk hH hS dX9_size_10 ⟨by grind [ab], rfl⟩
  · refine lv_iload_n hx hb dX9_size_4 rfl (lv_at hl 0 rfl) ?_
    refine lv_ineg hx hb dX9_size_5 ?_
    refine lv_goto (tgt := 10) hx hb dX9_size_6 (by decide) ?_
    exact r_iret CF hr hlk hH hS dX9_size_10 ⟨by grind [ab], rfl⟩

set_option maxRecDepth 100000 in
set_option maxHeartbeats 4000000 in
theorem c_X9_isCell (l : Launch) (G : Gm) (σ : Sg) (R C n : Nat) (sq : Nat → S4) (hA : MA σ R C n sq) (x y : Int32) : Met l yX9_isCell wsX9_isCell (rmO 1 22) (PP G [.ref (G.2.1 29), .int x, .int y] σ) (QI G (RV (b2i (inB x R && inB y C)) σ)) 0 0 (fr G) := by
  refine r_start (cc := cX9_isCell) (maxL := 3) (ret := (some .boolean)) (by decide) rfl (Nat.le_of_ble_eq_true rfl) ?_
  intro pz ez sz mz below meth cz ls CF hr hlk hK hH hS hl
  have CF : CallFix pz mz cz cX9_isCell 3 sz (List.toArray [.ref (G.2.1 29), .int x, .int y]) wsX9_isCell RX9 := CF
  have hx := CF.1
  have hb := CF.2.1
  have hown := CF.2.2.2.1
  have hts := CF.2.2.2.2
  have hl : lv_has ls 3 [(0, .ref (G.2.1 29)), (1, .int x), (2, .int y)] := hl
  have K1 := hts _ (List.mem_of_getElem? (i := 1) rfl)
  have K2 := hts _ (List.mem_of_getElem? (i := 2) rfl)
  have JX9 : ∀ w ∈ wsX90, w ∈ wsX9_isCell := in_r _ [7, 8, 9, 10, 11, 12, 13, 14, 15, 16, 17, 18, 19, 20, 21, 22, 23, 24, 25, 26] (by decide +kernel)
  obtain ⟨hR, hC, hR3, hR10, hC4, hC16, hM⟩ := hA
  have hn := hM.1
  have hn8 := hM.2.1
  refine lv_iload_n hx hb dX9_isCell_0 rfl (lv_at hl 1 rfl) ?_
  refine lv_iconst (v := 0) hx hb dX9_isCell_1 (by decide) ?_
  refine lv_aload_n hx hb dX9_isCell_2 rfl (lv_at hl 0 rfl) ?_
  refine r_get CF hK hH 29 (Nat.le_of_ble_eq_true rfl) rfl rfl JX9 0 (by decide) K1 rfl dX9_isCell_3 ?_
  refine r_top (show (σ 29 0 : Int32) = nI R from hR) ?_
  refine lv_iconst (v := 1) hx hb dX9_isCell_6 (by decide) ?_
  refine lv_isub hx hb dX9_isCell_7 ?_
  refine r_cR hS (r_runS (n := 3) (As := [.int x, .int (0 : Int32), .int ((nI R) - (1 : Int32))]) (rest := []) CF hK hH (c_X9_isBetween l G σ x (0 : Int32) ((nI R) - (1 : Int32))) gX9_isCell_X9_isBetween rfl rfl rfl (by decide +kernel) ⟨⟨Nat.le_of_ble_eq_true rfl, Nat.le_of_ble_eq_true rfl⟩, Nat.le_of_ble_eq_true rfl, Nat.le_of_ble_eq_true rfl⟩ rfl hl.1 rfl (Nat.le_of_ble_eq_true rfl) dX9_isCell_8) (fun H locs hH hS => ?_)
  refine r_top (show (b2i (isW x (0 : Int32) ((nI R) - (1 : Int32))) : Int32) = b2i (inB x R) from (by rw [isW_inB _ (by omega)])) ?_
  refine r_ifeqB (tgt := 32) hx hb dX9_isCell_11 (by decide) (fun c11 => ?_) (fun c11 => ?_)
  · refine lv_iconst (v := 0) hx hb dX9_isCell_32 (by decide) ?_
    exact r_zret CF hr hlk hH hS rfl dX9_isCell_33 ⟨by simp [b2i, c11], rfl⟩
  · refine lv_iload_n hx hb dX9_isCell_14 rfl (lv_at hl 2 rfl) ?_
    refine lv_iconst (v := 0) hx hb dX9_isCell_15 (by decide) ?_
    refine lv_aload_n hx hb dX9_isCell_16 rfl (lv_at hl 0 rfl) ?_
    refine r_get CF hK hH 29 (Nat.le_of_ble_eq_true rfl) rfl rfl JX9 1 (by decide) K2 rfl dX9_isCell_17 ?_
    refine r_top (show (σ 29 1 : Int32) = nI C from hC) ?_
    refine lv_iconst (v := 1) hx hb dX9_isCell_20 (by decide) ?_
    refine lv_isub hx hb dX9_isCell_21 ?_
    refine r_cR hS (r_runS (n := 3) (As := [.int y, .int (0 : Int32), .int ((nI C) - (1 : Int32))]) (rest := []) CF hK hH (c_X9_isBetween l G σ y (0 : Int32) ((nI C) - (1 : Int32))) gX9_isCell_X9_isBetween rfl rfl rfl (by decide +kernel) ⟨⟨Nat.le_of_ble_eq_true rfl, Nat.le_of_ble_eq_true rfl⟩, Nat.le_of_ble_eq_true rfl, Nat.le_of_ble_eq_true rfl⟩ rfl hl.1 rfl (Nat.le_of_ble_eq_true rfl) dX9_isCell_22) (fun H locs hH hS => ?_)
    refine r_top (show (b2i (isW y (0 : Int32) ((nI C) - (1 : Int32))) : Int32) = b2i (inB y C) from (by rw [isW_inB _ (by omega)])) ?_
    refine r_ifeqB (tgt := 32) hx hb dX9_isCell_25 (by decide) (fun c25 => ?_) (fun c25 => ?_)
    · refine lv_iconst (v := 0) hx hb dX9_isCell_32 (by decide) ?_
      exact r_zret CF hr hlk hH hS rfl dX9_isCell_33 ⟨by simp [b2i, c11, c25], rfl⟩
    · refine lv_iconst (v := 1) hx hb dX9_isCell_28 (by decide) ?_
      refine lv_goto (tgt := 33) hx hb dX9_isCell_29 (by decide) ?_
      exact r_zret CF hr hlk hH hS rfl dX9_isCell_33 ⟨by simp [b2i, c11, c25], rfl⟩

set_option maxRecDepth 100000 in
set_option maxHeartbeats 4000000 in
theorem c_X9_resize (l : Launch) (G : Gm) (σ : Sg) (x y : Int32) : Met l yX9_resize wsX9_resize (rmO 1 22) (PP G [.ref (G.2.1 29), .int x, .int y] σ) (QI G (RV (aRes x y) (if isW x 3 10 && isW y 4 16 then va_up (u2 (u2 (u2 σ 29 0 x) 29 1 y) 29 10 0) 30 (zr (σ 30) 160) else σ))) 0 0 (fr G) := by
  refine r_start (cc := cX9_resize) (maxL := 4) (ret := (some .int)) (by decide) rfl (Nat.le_of_ble_eq_true rfl) ?_
  intro pz ez sz mz below meth cz ls CF hr hlk hK hH hS hl
  have CF : CallFix pz mz cz cX9_resize 4 sz (List.toArray [.ref (G.2.1 29), .int x, .int y]) wsX9_resize RX9 := CF
  have hx := CF.1
  have hb := CF.2.1
  have hown := CF.2.2.2.1
  have hts := CF.2.2.2.2
  have hl : lv_has ls 4 [(0, .ref (G.2.1 29)), (1, .int x), (2, .int y)] := hl
  have K1 := hts _ (List.mem_of_getElem? (i := 1) rfl)
  have K2 := hts _ (List.mem_of_getElem? (i := 2) rfl)
  have K3 := hts _ (List.mem_of_getElem? (i := 3) rfl)
  have K4 := hts _ (List.mem_of_getElem? (i := 4) rfl)
  have JX9 : ∀ w ∈ wsX90, w ∈ wsX9_resize := in_r _ [9, 10, 11, 12, 13, 14, 15, 16, 17, 18, 19, 20, 21, 22, 23, 24, 25, 26, 27, 28] (by decide +kernel)
  refine lv_iload_n hx hb dX9_resize_0 rfl (lv_at hl 1 rfl) ?_
  refine lv_iconst (v := 3) hx hb dX9_resize_1 (by decide) ?_
  refine lv_bipush (v := 10) hx hb dX9_resize_2 (by decide) ?_
  refine r_cR hS (r_runS (n := 3) (As := [.int x, .int (3 : Int32), .int (10 : Int32)]) (rest := []) CF hK hH (c_X9_isBetween l G σ x (3 : Int32) (10 : Int32)) gX9_resize_X9_isBetween rfl rfl rfl (by decide +kernel) ⟨⟨Nat.le_of_ble_eq_true rfl, Nat.le_of_ble_eq_true rfl⟩, Nat.le_of_ble_eq_true rfl, Nat.le_of_ble_eq_true rfl⟩ rfl hl.1 rfl (Nat.le_of_ble_eq_true rfl) dX9_resize_4) (fun H locs hH hS => ?_)
  refine r_ifeqB (tgt := 20) hx hb dX9_resize_7 (by decide) (fun c7 => ?_) (fun c7 => ?_)
  · refine lv_bipush (v := (-4)) hx hb dX9_resize_20 (by decide) ?_
    exact r_iret CF hr hlk hH hS dX9_resize_22 ⟨by simp [aRes, c7], by simp [c7]⟩
  · refine lv_iload_n hx hb dX9_resize_10 rfl (lv_at hl 2 rfl) ?_
    refine lv_iconst (v := 4) hx hb dX9_resize_11 (by decide) ?_
    refine lv_bipush (v := 16) hx hb dX9_resize_12 (by decide) ?_
    refine r_cR hS (r_runS (n := 3) (As := [.int y, .int (4 : Int32), .int (16 : Int32)]) (rest := []) CF hK hH (c_X9_isBetween l G σ y (4 : Int32) (16 : Int32)) gX9_resize_X9_isBetween rfl rfl rfl (by decide +kernel) ⟨⟨Nat.le_of_ble_eq_true rfl, Nat.le_of_ble_eq_true rfl⟩, Nat.le_of_ble_eq_true rfl, Nat.le_of_ble_eq_true rfl⟩ rfl hl.1 rfl (Nat.le_of_ble_eq_true rfl) dX9_resize_14) (fun H locs hH hS => ?_)
    refine r_ifneB (tgt := 23) hx hb dX9_resize_17 (by decide) (fun c17 => ?_) (fun c17 => ?_)
    · refine lv_aload_n hx hb dX9_resize_23 rfl (lv_at hl 0 rfl) ?_
      refine lv_iload_n hx hb dX9_resize_24 rfl (lv_at hl 1 rfl) ?_
      refine r_put CF hK hH hS 29 (Nat.le_of_ble_eq_true rfl) rfl rfl JX9 tyX9 tyX9_ok nmX9 0 (by decide) K1 rfl (by decide +kernel) (Nat.le_of_ble_eq_true rfl) rfl dX9_resize_25 (fun H locs hH hS => ?_)
      refine lv_aload_n hx hb dX9_resize_28 rfl (lv_at hl 0 rfl) ?_
      refine lv_iload_n hx hb dX9_resize_29 rfl (lv_at hl 2 rfl) ?_
      refine r_put CF hK hH hS 29 (Nat.le_of_ble_eq_true rfl) rfl rfl JX9 tyX9 tyX9_ok nmX9 1 (by decide) K2 rfl (by decide +kernel) (Nat.le_of_ble_eq_true rfl) rfl dX9_resize_30 (fun H locs hH hS => ?_)
      refine lv_aload_n hx hb dX9_resize_33 rfl (lv_at hl 0 rfl) ?_
      refine lv_iconst (v := 0) hx hb dX9_resize_34 (by decide) ?_
      refine r_put CF hK hH hS 29 (Nat.le_of_ble_eq_true rfl) rfl rfl JX9 tyX9 tyX9_ok nmX9 10 (by decide) K3 rfl (by decide +kernel) (Nat.le_of_ble_eq_true rfl) rfl dX9_resize_35 (fun H locs hH hS => ?_)
      refine lv_iconst (v := 0) hx hb dX9_resize_38 (by decide) ?_
      refine lv_istore_n (lv' := [(3, .int (0 : Int32)), (0, .ref (G.2.1 29)), (1, .int x), (2, .int y)]) hx hb dX9_resize_39 rfl hl (by decide) rfl (fun ls hl => ?_)
      have lp40 : ∀ (fu : Nat) (i : Nat) (σ1 : Sg) (H : Heap) (locs : List Loc) (ls : Array Slot), (161 ≤ i + fu) → (i ≤ 160) → (σ1 = va_up (u2 (u2 (u2 σ 29 0 x) 29 1 y) 29 10 0) 30 (zr (σ 30) i)) → Hp G σ1 H → va_S (fr G) sz.heap H locs → lv_has ls 4 [(0, .ref (G.2.1 29)), (3, .int (nI i)), (1, .int x), (2, .int y)] → W pz l ez (rmO 1 22) sz mz (List.toArray [.ref (G.2.1 29), .int x, .int y]) below meth cz H locs 0 0 (MQ below (QI G (RV (aRes x y) (if isW x 3 10 && isW y 4 16 then va_up (u2 (u2 (u2 σ 29 0 x) 29 1 y) 29 10 0) 30 (zr (σ 30) 160) else σ))) (List.toArray [.ref (G.2.1 29), .int x, .int y]) sz 0 0 (fr G)) (F0 mz 40 ls []) := by
        intro fu
        induction fu with
        | zero => intros; omega
        | succ fu ih40 =>
          intro i σ1 H locs ls hf hi hσ hH hS hl
          refine lv_iload_n hx hb dX9_resize_40 rfl (lv_at hl 1 rfl) ?_
          refine lv_sipush (v := 160) hx hb dX9_resize_41 (by decide) ?_
          refine lv_icmp_ge (tgt := 60) hx hb dX9_resize_44 (by decide) (fun c44 => ?_) (fun c44 => ?_)
          · have c44 : 160 ≤ i := (nI_leI (a := 160) (b := i) (by omega) (by omega)).mp c44
            refine lv_aload_n hx hb dX9_resize_60 rfl (lv_at hl 0 rfl) ?_
            refine r_get CF hK hH 29 (Nat.le_of_ble_eq_true rfl) rfl rfl JX9 0 (by decide) K1 rfl dX9_resize_61 ?_
            refine r_top (show (σ1 29 0 : Int32) = x from (by rw [hσ]; rfl)) ?_
            refine lv_aload_n hx hb dX9_resize_64 rfl (lv_at hl 0 rfl) ?_
            refine r_get CF hK hH 29 (Nat.le_of_ble_eq_true rfl) rfl rfl JX9 1 (by decide) K2 rfl dX9_resize_65 ?_
            refine r_top (show (σ1 29 1 : Int32) = y from (by rw [hσ]; rfl)) ?_
            refine lv_imul hx hb dX9_resize_68 ?_
            exact r_iret CF hr hlk hH hS dX9_resize_69 ⟨by simp [aRes, c7, c17], by have e : i = 160 := (by omega); subst e; simp [c7, c17, hσ]⟩
          · have c44 : i < 160 := Nat.lt_of_not_le (fun zq => c44 ((nI_leI (a := 160) (b := i) (by omega) (by omega)).mpr zq))
            refine lv_aload_n hx hb dX9_resize_47 rfl (lv_at hl 0 rfl) ?_
            refine r_get CF hK hH 29 (Nat.le_of_ble_eq_true rfl) rfl rfl JX9 9 (by decide) K4 rfl dX9_resize_48 ?_
            refine lv_iload_n hx hb dX9_resize_51 rfl (lv_at hl 1 rfl) ?_
            refine lv_iconst (v := 0) hx hb dX9_resize_52 (by decide) ?_
            refine r_iast CF hK hH hS 30 (Nat.le_of_ble_eq_true rfl) (fun _ => rfl) (Nat.le_of_ble_eq_true rfl) i rfl (by omega) dX9_resize_53 (fun H locs hH hS => ?_)
            refine lv_iinc (v := nI (i + 1)) (lv' := [(3, .int (nI (i + 1))), (0, .ref (G.2.1 29)), (1, .int x), (2, .int y)]) hx hb dX9_resize_54 hl (k := 1) rfl (nI_1 _) (by decide) rfl (fun ls hl => ?_)
            refine lv_goto (tgt := 40) hx hb dX9_resize_57 (by decide) ?_
            exact ih40 (i + 1) (u2 σ1 30 i (0 : Int32)) _ _ ls (by omega) (by omega) (by rw [hσ, u2_up, zr_s]) hH hS (lv_sub hl [1, 0, 2, 3] rfl)
      exact lp40 161 0 (u2 (u2 (u2 σ 29 0 x) 29 1 y) 29 10 (0 : Int32)) _ _ ls (by omega) (by omega) (by rw [zr_0]; exact (up_id _ 30).symm) hH hS (lv_sub hl [1, 0, 2, 3] rfl)
    · refine lv_bipush (v := (-4)) hx hb dX9_resize_20 (by decide) ?_
      exact r_iret CF hr hlk hH hS dX9_resize_22 ⟨by simp [aRes, c7, c17], by simp [c7, c17]⟩

set_option maxRecDepth 100000 in
set_option maxHeartbeats 4000000 in
theorem c_X9_setHeight (l : Launch) (G : Gm) (σ : Sg) (R C n : Nat) (sq : Nat → S4) (hA : MA σ R C n sq) (x y h : Int32) : Met l yX9_setHeight wsX9_setHeight (rmO 2 44) (PP G [.ref (G.2.1 29), .int x, .int y, .int h] σ) (QI G (RV (aSetH R C (σ 30) x y h) (if (inB x R && inB y C) && isW h 0 999 then u2 σ 30 (16 * NN x + NN y) h else σ))) 0 0 (fr G) := by
  refine r_start (cc := cX9_setHeight) (maxL := 5) (ret := (some .int)) (by decide) rfl (Nat.le_of_ble_eq_true rfl) ?_
  intro pz ez sz mz below meth cz ls CF hr hlk hK hH hS hl
  have CF : CallFix pz mz cz cX9_setHeight 5 sz (List.toArray [.ref (G.2.1 29), .int x, .int y, .int h]) wsX9_setHeight RX9 := CF
  have hx := CF.1
  have hb := CF.2.1
  have hown := CF.2.2.2.1
  have hts := CF.2.2.2.2
  have hl : lv_has ls 5 [(0, .ref (G.2.1 29)), (1, .int x), (2, .int y), (3, .int h)] := hl
  have K1 := hts _ (List.mem_of_getElem? (i := 1) rfl)
  have JX9 : ∀ w ∈ wsX90, w ∈ wsX9_setHeight := in_r _ [12, 13, 14, 15, 16, 17, 18, 19, 20, 21, 22, 23, 24, 25, 26, 27, 28, 29, 30, 31] (by decide +kernel)
  obtain ⟨hR, hC, hR3, hR10, hC4, hC16, hM⟩ := hA
  have hn := hM.1
  have hn8 := hM.2.1
  refine lv_aload_n hx hb dX9_setHeight_0 rfl (lv_at hl 0 rfl) ?_
  refine lv_iload_n hx hb dX9_setHeight_1 rfl (lv_at hl 1 rfl) ?_
  refine lv_iload_n hx hb dX9_setHeight_2 rfl (lv_at hl 2 rfl) ?_
  refine r_cR hS (r_runV (n := 2) (As := [.int x, .int y]) (rest := []) CF hK hH (c_X9_isCell l G σ R C n sq ⟨hR, hC, hR3, hR10, hC4, hC16, hM⟩ x y) gX9_setHeight_X9_isCell rfl rfl rfl rfl (by decide +kernel) ⟨⟨Nat.le_of_ble_eq_true rfl, Nat.le_of_ble_eq_true rfl⟩, Nat.le_of_ble_eq_true rfl, Nat.le_of_ble_eq_true rfl⟩ 29 rfl (Nat.le_of_ble_eq_true rfl) rfl rfl rfl hl.1 rfl (Nat.le_of_ble_eq_true rfl) dX9_setHeight_3) (fun H locs hH hS => ?_)
  refine r_ifneB (tgt := 11) hx hb dX9_setHeight_6 (by decide) (fun c6 => ?_) (fun c6 => ?_)
  · obtain ⟨r, c, hr1, hc1, ex, ey, exN, eyN⟩ := inC_of c6 hR10 hC16
    refine lv_iload_n hx hb dX9_setHeight_11 rfl (lv_at hl 3 rfl) ?_
    refine lv_iconst (v := 0) hx hb dX9_setHeight_12 (by decide) ?_
    refine lv_sipush (v := 999) hx hb dX9_setHeight_13 (by decide) ?_
    refine r_cR hS (r_runS (n := 3) (As := [.int h, .int (0 : Int32), .int (999 : Int32)]) (rest := []) CF hK hH (c_X9_isBetween l G σ h (0 : Int32) (999 : Int32)) gX9_setHeight_X9_isBetween rfl rfl rfl (by decide +kernel) ⟨⟨Nat.le_of_ble_eq_true rfl, Nat.le_of_ble_eq_true rfl⟩, Nat.le_of_ble_eq_true rfl, Nat.le_of_ble_eq_true rfl⟩ rfl hl.1 rfl (Nat.le_of_ble_eq_true rfl) dX9_setHeight_16) (fun H locs hH hS => ?_)
    refine r_ifneB (tgt := 25) hx hb dX9_setHeight_19 (by decide) (fun c19 => ?_) (fun c19 => ?_)
    · refine lv_aload_n hx hb dX9_setHeight_25 rfl (lv_at hl 0 rfl) ?_
      refine r_get CF hK hH 29 (Nat.le_of_ble_eq_true rfl) rfl rfl JX9 9 (by decide) K1 rfl dX9_setHeight_26 ?_
      refine lv_bipush (v := 16) hx hb dX9_setHeight_29 (by decide) ?_
      refine lv_iload_n hx hb dX9_setHeight_31 rfl (lv_at hl 1 rfl) ?_
      refine r_top (show (x : Int32) = nI r from ex) ?_
      refine lv_imul hx hb dX9_setHeight_32 ?_
      refine lv_iload_n hx hb dX9_setHeight_33 rfl (lv_at hl 2 rfl) ?_
      refine r_top (show (y : Int32) = nI c from ey) ?_
      refine lv_iadd hx hb dX9_setHeight_34 ?_
      refine r_top (show ((((16 : Int32) * (nI r)) + (nI c)) : Int32) = nI (16 * r + c) from ix16b r c) ?_
      refine r_iald CF hK hH 30 (Nat.le_of_ble_eq_true rfl) rfl (Nat.le_of_ble_eq_true rfl) (16 * r + c) rfl (by omega) dX9_setHeight_35 ?_
      refine lv_istore (lv' := [(4, .int (σ 30 (16 * r + c))), (0, .ref (G.2.1 29)), (1, .int x), (2, .int y), (3, .int h)]) hx hb dX9_setHeight_36 hl (by decide) rfl (fun ls hl => ?_)
      refine lv_aload_n hx hb dX9_setHeight_38 rfl (lv_at hl 1 rfl) ?_
      refine r_get CF hK hH 29 (Nat.le_of_ble_eq_true rfl) rfl rfl JX9 9 (by decide) K1 rfl dX9_setHeight_39 ?_
      refine lv_bipush (v := 16) hx hb dX9_setHeight_42 (by decide) ?_
      refine lv_iload_n hx hb dX9_setHeight_44 rfl (lv_at hl 2 rfl) ?_
      refine r_top (show (x : Int32) = nI r from ex) ?_
      refine lv_imul hx hb dX9_setHeight_45 ?_
      refine lv_iload_n hx hb dX9_setHeight_46 rfl (lv_at hl 3 rfl) ?_
      refine r_top (show (y : Int32) = nI c from ey) ?_
      refine lv_iadd hx hb dX9_setHeight_47 ?_
      refine r_top (show ((((16 : Int32) * (nI r)) + (nI c)) : Int32) = nI (16 * r + c) from ix16b r c) ?_
      refine lv_iload_n hx hb dX9_setHeight_48 rfl (lv_at hl 4 rfl) ?_
      refine r_iast CF hK hH hS 30 (Nat.le_of_ble_eq_true rfl) (fun _ => rfl) (Nat.le_of_ble_eq_true rfl) (16 * r + c) rfl (by omega) dX9_setHeight_49 (fun H locs hH hS => ?_)
      refine lv_iload hx hb dX9_setHeight_50 (lv_at hl 0 rfl) ?_
      exact r_iret CF hr hlk hH hS dX9_setHeight_52 ⟨by simp [aSetH, c6, c19, exN, eyN], by simp [c6, c19, exN, eyN]⟩
    · refine lv_bipush (v := (-4)) hx hb dX9_setHeight_22 (by decide) ?_
      exact r_iret CF hr hlk hH hS dX9_setHeight_24 ⟨by simp [aSetH, c6, c19], by simp [c6, c19]⟩
  · refine lv_iconst (v := (-1)) hx hb dX9_setHeight_9 (by decide) ?_
    exact r_iret CF hr hlk hH hS dX9_setHeight_10 ⟨by simp [aSetH, c6], by simp [c6]⟩

set_option maxRecDepth 100000 in
set_option maxHeartbeats 4000000 in
theorem c_X9_height (l : Launch) (G : Gm) (σ : Sg) (R C n : Nat) (sq : Nat → S4) (hA : MA σ R C n sq) (x y : Int32) : Met l yX9_height wsX9_height (rmO 2 44) (PP G [.ref (G.2.1 29), .int x, .int y] σ) (QI G (RV (aHgt R C (σ 30) x y) σ)) 0 0 (fr G) := by
  refine r_start (cc := cX9_height) (maxL := 3) (ret := (some .int)) (by decide) rfl (Nat.le_of_ble_eq_true rfl) ?_
  intro pz ez sz mz below meth cz ls CF hr hlk hK hH hS hl
  have CF : CallFix pz mz cz cX9_height 3 sz (List.toArray [.ref (G.2.1 29), .int x, .int y]) wsX9_height RX9 := CF
  have hx := CF.1
  have hb := CF.2.1
  have hown := CF.2.2.2.1
  have hts := CF.2.2.2.2
  have hl : lv_has ls 3 [(0, .ref (G.2.1 29)), (1, .int x), (2, .int y)] := hl
  have K1 := hts _ (List.mem_of_getElem? (i := 1) rfl)
  have JX9 : ∀ w ∈ wsX90, w ∈ wsX9_height := in_r _ [12, 13, 14, 15, 16, 17, 18, 19, 20, 21, 22, 23, 24, 25, 26, 27, 28, 29, 30, 31] (by decide +kernel)
  obtain ⟨hR, hC, hR3, hR10, hC4, hC16, hM⟩ := hA
  have hn := hM.1
  have hn8 := hM.2.1
  refine lv_aload_n hx hb dX9_height_0 rfl (lv_at hl 0 rfl) ?_
  refine lv_iload_n hx hb dX9_height_1 rfl (lv_at hl 1 rfl) ?_
  refine lv_iload_n hx hb dX9_height_2 rfl (lv_at hl 2 rfl) ?_
  refine r_cR hS (r_runV (n := 2) (As := [.int x, .int y]) (rest := []) CF hK hH (c_X9_isCell l G σ R C n sq ⟨hR, hC, hR3, hR10, hC4, hC16, hM⟩ x y) gX9_height_X9_isCell rfl rfl rfl rfl (by decide +kernel) ⟨⟨Nat.le_of_ble_eq_true rfl, Nat.le_of_ble_eq_true rfl⟩, Nat.le_of_ble_eq_true rfl, Nat.le_of_ble_eq_true rfl⟩ 29 rfl (Nat.le_of_ble_eq_true rfl) rfl rfl rfl hl.1 rfl (Nat.le_of_ble_eq_true rfl) dX9_height_3) (fun H locs hH hS => ?_)
  refine r_ifeqB (tgt := 23) hx hb dX9_height_6 (by decide) (fun c6 => ?_) (fun c6 => ?_)
  · refine lv_iconst (v := (-1)) hx hb dX9_height_23 (by decide) ?_
    exact r_iret CF hr hlk hH hS dX9_height_24 ⟨by simp [aHgt, c6], rfl⟩
  · obtain ⟨r, c, hr1, hc1, ex, ey, exN, eyN⟩ := inC_of c6 hR10 hC16
    refine lv_aload_n hx hb dX9_height_9 rfl (lv_at hl 0 rfl) ?_
    refine r_get CF hK hH 29 (Nat.le_of_ble_eq_true rfl) rfl rfl JX9 9 (by decide) K1 rfl dX9_height_10 ?_
    refine lv_bipush (v := 16) hx hb dX9_height_13 (by decide) ?_
    refine lv_iload_n hx hb dX9_height_15 rfl (lv_at hl 1 rfl) ?_
    refine r_top (show (x : Int32) = nI r from ex) ?_
    refine lv_imul hx hb dX9_height_16 ?_
    refine lv_iload_n hx hb dX9_height_17 rfl (lv_at hl 2 rfl) ?_
    refine r_top (show (y : Int32) = nI c from ey) ?_
    refine lv_iadd hx hb dX9_height_18 ?_
    refine r_top (show ((((16 : Int32) * (nI r)) + (nI c)) : Int32) = nI (16 * r + c) from ix16b r c) ?_
    refine r_iald CF hK hH 30 (Nat.le_of_ble_eq_true rfl) rfl (Nat.le_of_ble_eq_true rfl) (16 * r + c) rfl (by omega) dX9_height_19 ?_
    refine lv_goto (tgt := 24) hx hb dX9_height_20 (by decide) ?_
    exact r_iret CF hr hlk hH hS dX9_height_24 ⟨by simp [aHgt, c6, exN, eyN], rfl⟩

set_option maxRecDepth 100000 in
set_option maxHeartbeats 4000000 in
theorem c_X9_setAltitude (l : Launch) (G : Gm) (σ : Sg) (x : Int32) : Met l yX9_setAltitude wsX9_setAltitude (rmO 1 22) (PP G [.ref (G.2.1 29), .int x] σ) (QI G (RV (aAlt (σ 29 2) x) (if isW x 100 5000 then u2 σ 29 2 x else σ))) 0 0 (fr G) := by
  refine r_start (cc := cX9_setAltitude) (maxL := 3) (ret := (some .int)) (by decide) rfl (Nat.le_of_ble_eq_true rfl) ?_
  intro pz ez sz mz below meth cz ls CF hr hlk hK hH hS hl
  have CF : CallFix pz mz cz cX9_setAltitude 3 sz (List.toArray [.ref (G.2.1 29), .int x]) wsX9_setAltitude RX9 := CF
  have hx := CF.1
  have hb := CF.2.1
  have hown := CF.2.2.2.1
  have hts := CF.2.2.2.2
  have hl : lv_has ls 3 [(0, .ref (G.2.1 29)), (1, .int x)] := hl
  have K1 := hts _ (List.mem_of_getElem? (i := 1) rfl)
  have JX9 : ∀ w ∈ wsX90, w ∈ wsX9_setAltitude := in_r _ [6, 7, 8, 9, 10, 11, 12, 13, 14, 15, 16, 17, 18, 19, 20, 21, 22, 23, 24, 25] (by decide +kernel)
  refine lv_iload_n hx hb dX9_setAltitude_0 rfl (lv_at hl 1 rfl) ?_
  refine lv_bipush (v := 100) hx hb dX9_setAltitude_1 (by decide) ?_
  refine lv_sipush (v := 5000) hx hb dX9_setAltitude_3 (by decide) ?_
  refine r_cR hS (r_runS (n := 3) (As := [.int x, .int (100 : Int32), .int (5000 : Int32)]) (rest := []) CF hK hH (c_X9_isBetween l G σ x (100 : Int32) (5000 : Int32)) gX9_setAltitude_X9_isBetween rfl rfl rfl (by decide +kernel) ⟨⟨Nat.le_of_ble_eq_true rfl, Nat.le_of_ble_eq_true rfl⟩, Nat.le_of_ble_eq_true rfl, Nat.le_of_ble_eq_true rfl⟩ rfl hl.1 rfl (Nat.le_of_ble_eq_true rfl) dX9_setAltitude_6) (fun H locs hH hS => ?_)
  refine r_ifneB (tgt := 15) hx hb dX9_setAltitude_9 (by decide) (fun c9 => ?_) (fun c9 => ?_)
  · refine lv_aload_n hx hb dX9_setAltitude_15 rfl (lv_at hl 0 rfl) ?_
    refine r_get CF hK hH 29 (Nat.le_of_ble_eq_true rfl) rfl rfl JX9 2 (by decide) K1 rfl dX9_setAltitude_16 ?_
    refine lv_istore_n (lv' := [(2, .int (σ 29 2)), (0, .ref (G.2.1 29)), (1, .int x)]) hx hb dX9_setAltitude_19 rfl hl (by decide) rfl (fun ls hl => ?_)
    refine lv_aload_n hx hb dX9_setAltitude_20 rfl (lv_at hl 1 rfl) ?_
    refine lv_iload_n hx hb dX9_setAltitude_21 rfl (lv_at hl 2 rfl) ?_
    refine r_put CF hK hH hS 29 (Nat.le_of_ble_eq_true rfl) rfl rfl JX9 tyX9 tyX9_ok nmX9 2 (by decide) K1 rfl (by decide +kernel) (Nat.le_of_ble_eq_true rfl) rfl dX9_setAltitude_22 (fun H locs hH hS => ?_)
    refine lv_iload_n hx hb dX9_setAltitude_25 rfl (lv_at hl 0 rfl) ?_
    exact r_iret CF hr hlk hH hS dX9_setAltitude_26 ⟨by simp [aAlt, c9], by simp [c9]⟩
  · refine lv_bipush (v := (-4)) hx hb dX9_setAltitude_12 (by decide) ?_
    exact r_iret CF hr hlk hH hS dX9_setAltitude_14 ⟨by simp [aAlt, c9], by simp [c9]⟩

set_option maxRecDepth 100000 in
set_option maxHeartbeats 4000000 in
theorem c_X9_setFields (l : Launch) (G : Gm) (σ : Sg) (x y : Int32) : Met l yX9_setFields wsX9_setFields (rmO 1 22) (PP G [.ref (G.2.1 29), .int x, .int y] σ) (QI G (RV (aFld (σ 29 3) (σ 29 4) x y) (if isW x 1 50 && isW y 1 50 then u2 (u2 σ 29 3 x) 29 4 y else σ))) 0 0 (fr G) := by
  refine r_start (cc := cX9_setFields) (maxL := 4) (ret := (some .int)) (by decide) rfl (Nat.le_of_ble_eq_true rfl) ?_
  intro pz ez sz mz below meth cz ls CF hr hlk hK hH hS hl
  have CF : CallFix pz mz cz cX9_setFields 4 sz (List.toArray [.ref (G.2.1 29), .int x, .int y]) wsX9_setFields RX9 := CF
  have hx := CF.1
  have hb := CF.2.1
  have hown := CF.2.2.2.1
  have hts := CF.2.2.2.2
  have hl : lv_has ls 4 [(0, .ref (G.2.1 29)), (1, .int x), (2, .int y)] := hl
  have K1 := hts _ (List.mem_of_getElem? (i := 1) rfl)
  have K2 := hts _ (List.mem_of_getElem? (i := 2) rfl)
  have JX9 : ∀ w ∈ wsX90, w ∈ wsX9_setFields := in_r _ [7, 8, 9, 10, 11, 12, 13, 14, 15, 16, 17, 18, 19, 20, 21, 22, 23, 24, 25, 26] (by decide +kernel)
  refine lv_iload_n hx hb dX9_setFields_0 rfl (lv_at hl 1 rfl) ?_
  refine lv_iconst (v := 1) hx hb dX9_setFields_1 (by decide) ?_
  refine lv_bipush (v := 50) hx hb dX9_setFields_2 (by decide) ?_
  refine r_cR hS (r_runS (n := 3) (As := [.int x, .int (1 : Int32), .int (50 : Int32)]) (rest := []) CF hK hH (c_X9_isBetween l G σ x (1 : Int32) (50 : Int32)) gX9_setFields_X9_isBetween rfl rfl rfl (by decide +kernel) ⟨⟨Nat.le_of_ble_eq_true rfl, Nat.le_of_ble_eq_true rfl⟩, Nat.le_of_ble_eq_true rfl, Nat.le_of_ble_eq_true rfl⟩ rfl hl.1 rfl (Nat.le_of_ble_eq_true rfl) dX9_setFields_4) (fun H locs hH hS => ?_)
  refine r_ifeqB (tgt := 20) hx hb dX9_setFields_7 (by decide) (fun c7 => ?_) (fun c7 => ?_)
  · refine lv_bipush (v := (-4)) hx hb dX9_setFields_20 (by decide) ?_
    exact r_iret CF hr hlk hH hS dX9_setFields_22 ⟨by simp [aFld, c7], by simp [c7]⟩
  · refine lv_iload_n hx hb dX9_setFields_10 rfl (lv_at hl 2 rfl) ?_
    refine lv_iconst (v := 1) hx hb dX9_setFields_11 (by decide) ?_
    refine lv_bipush (v := 50) hx hb dX9_setFields_12 (by decide) ?_
    refine r_cR hS (r_runS (n := 3) (As := [.int y, .int (1 : Int32), .int (50 : Int32)]) (rest := []) CF hK hH (c_X9_isBetween l G σ y (1 : Int32) (50 : Int32)) gX9_setFields_X9_isBetween rfl rfl rfl (by decide +kernel) ⟨⟨Nat.le_of_ble_eq_true rfl, Nat.le_of_ble_eq_true rfl⟩, Nat.le_of_ble_eq_true rfl, Nat.le_of_ble_eq_true rfl⟩ rfl hl.1 rfl (Nat.le_of_ble_eq_true rfl) dX9_setFields_14) (fun H locs hH hS => ?_)
    refine r_ifneB (tgt := 23) hx hb dX9_setFields_17 (by decide) (fun c17 => ?_) (fun c17 => ?_)
    · refine lv_aload_n hx hb dX9_setFields_23 rfl (lv_at hl 0 rfl) ?_
      refine r_get CF hK hH 29 (Nat.le_of_ble_eq_true rfl) rfl rfl JX9 3 (by decide) K1 rfl dX9_setFields_24 ?_
      refine lv_iload_n hx hb dX9_setFields_27 rfl (lv_at hl 1 rfl) ?_
      refine lv_icmp_ne (tgt := 43) hx hb dX9_setFields_28 (by decide) (fun c28 => ?_) (fun c28 => ?_)
      · refine lv_iconst (v := 0) hx hb dX9_setFields_43 (by decide) ?_
        refine lv_istore_n (lv' := [(3, .int (0 : Int32)), (0, .ref (G.2.1 29)), (1, .int x), (2, .int y)]) hx hb dX9_setFields_44 rfl hl (by decide) rfl (fun ls hl => ?_)
        refine lv_aload_n hx hb dX9_setFields_45 rfl (lv_at hl 1 rfl) ?_
        refine lv_iload_n hx hb dX9_setFields_46 rfl (lv_at hl 2 rfl) ?_
        refine r_put CF hK hH hS 29 (Nat.le_of_ble_eq_true rfl) rfl rfl JX9 tyX9 tyX9_ok nmX9 3 (by decide) K1 rfl (by decide +kernel) (Nat.le_of_ble_eq_true rfl) rfl dX9_setFields_47 (fun H locs hH hS => ?_)
        refine lv_aload_n hx hb dX9_setFields_50 rfl (lv_at hl 1 rfl) ?_
        refine lv_iload_n hx hb dX9_setFields_51 rfl (lv_at hl 3 rfl) ?_
        refine r_put CF hK hH hS 29 (Nat.le_of_ble_eq_true rfl) rfl rfl JX9 tyX9 tyX9_ok nmX9 4 (by decide) K2 rfl (by decide +kernel) (Nat.le_of_ble_eq_true rfl) rfl dX9_setFields_52 (fun H locs hH hS => ?_)
        refine lv_iload_n hx hb dX9_setFields_55 rfl (lv_at hl 0 rfl) ?_
        refine lv_if_eq (tgt := 63) hx hb dX9_setFields_56 (by decide) (fun c56 => ?_) (fun c56 => ?_)
        · refine lv_iconst (v := 1) hx hb dX9_setFields_63 (by decide) ?_
          exact r_iret CF hr hlk hH hS dX9_setFields_64 ⟨by simp [aFld, c7, c17, c28, c56], by simp [c7, c17, c28, c56]⟩
        · exact absurd rfl c56
      · refine lv_aload_n hx hb dX9_setFields_31 rfl (lv_at hl 0 rfl) ?_
        refine r_get CF hK hH 29 (Nat.le_of_ble_eq_true rfl) rfl rfl JX9 4 (by decide) K2 rfl dX9_setFields_32 ?_
        refine lv_iload_n hx hb dX9_setFields_35 rfl (lv_at hl 2 rfl) ?_
        refine lv_icmp_ne (tgt := 43) hx hb dX9_setFields_36 (by decide) (fun c36 => ?_) (fun c36 => ?_)
        · refine lv_iconst (v := 0) hx hb dX9_setFields_43 (by decide) ?_
          refine lv_istore_n (lv' := [(3, .int (0 : Int32)), (0, .ref (G.2.1 29)), (1, .int x), (2, .int y)]) hx hb dX9_setFields_44 rfl hl (by decide) rfl (fun ls hl => ?_)
          refine lv_aload_n hx hb dX9_setFields_45 rfl (lv_at hl 1 rfl) ?_
          refine lv_iload_n hx hb dX9_setFields_46 rfl (lv_at hl 2 rfl) ?_
          refine r_put CF hK hH hS 29 (Nat.le_of_ble_eq_true rfl) rfl rfl JX9 tyX9 tyX9_ok nmX9 3 (by decide) K1 rfl (by decide +kernel) (Nat.le_of_ble_eq_true rfl) rfl dX9_setFields_47 (fun H locs hH hS => ?_)
          refine lv_aload_n hx hb dX9_setFields_50 rfl (lv_at hl 1 rfl) ?_
          refine lv_iload_n hx hb dX9_setFields_51 rfl (lv_at hl 3 rfl) ?_
          refine r_put CF hK hH hS 29 (Nat.le_of_ble_eq_true rfl) rfl rfl JX9 tyX9 tyX9_ok nmX9 4 (by decide) K2 rfl (by decide +kernel) (Nat.le_of_ble_eq_true rfl) rfl dX9_setFields_52 (fun H locs hH hS => ?_)
          refine lv_iload_n hx hb dX9_setFields_55 rfl (lv_at hl 0 rfl) ?_
          refine lv_if_eq (tgt := 63) hx hb dX9_setFields_56 (by decide) (fun c56 => ?_) (fun c56 => ?_)
          · refine lv_iconst (v := 1) hx hb dX9_setFields_63 (by decide) ?_
            exact r_iret CF hr hlk hH hS dX9_setFields_64 ⟨by simp [aFld, c7, c17, c28, c36, c56], by simp [c7, c17, c28, c36, c56]⟩
          · exact absurd rfl c56
        · refine lv_iconst (v := 1) hx hb dX9_setFields_39 (by decide) ?_
          refine lv_goto (tgt := 44) hx hb dX9_setFields_40 (by decide) ?_
          refine lv_istore_n (lv' := [(3, .int (1 : Int32)), (0, .ref (G.2.1 29)), (1, .int x), (2, .int y)]) hx hb dX9_setFields_44 rfl hl (by decide) rfl (fun ls hl => ?_)
          refine lv_aload_n hx hb dX9_setFields_45 rfl (lv_at hl 1 rfl) ?_
          refine lv_iload_n hx hb dX9_setFields_46 rfl (lv_at hl 2 rfl) ?_
          refine r_put CF hK hH hS 29 (Nat.le_of_ble_eq_true rfl) rfl rfl JX9 tyX9 tyX9_ok nmX9 3 (by decide) K1 rfl (by decide +kernel) (Nat.le_of_ble_eq_true rfl) rfl dX9_setFields_47 (fun H locs hH hS => ?_)
          refine lv_aload_n hx hb dX9_setFields_50 rfl (lv_at hl 1 rfl) ?_
          refine lv_iload_n hx hb dX9_setFields_51 rfl (lv_at hl 3 rfl) ?_
          refine r_put CF hK hH hS 29 (Nat.le_of_ble_eq_true rfl) rfl rfl JX9 tyX9 tyX9_ok nmX9 4 (by decide) K2 rfl (by decide +kernel) (Nat.le_of_ble_eq_true rfl) rfl dX9_setFields_52 (fun H locs hH hS => ?_)
          refine lv_iload_n hx hb dX9_setFields_55 rfl (lv_at hl 0 rfl) ?_
          refine lv_if_eq (tgt := 63) hx hb dX9_setFields_56 (by decide) (fun c56 => ?_) (fun c56 => ?_)
          · exact absurd c56 (by decide)
          · refine lv_iconst (v := 0) hx hb dX9_setFields_59 (by decide) ?_
            refine lv_goto (tgt := 64) hx hb dX9_setFields_60 (by decide) ?_
            exact r_iret CF hr hlk hH hS dX9_setFields_64 ⟨by simp [aFld, c7, c17, c28, c36, c56], by simp [c7, c17, c28, c36, c56]⟩
    · refine lv_bipush (v := (-4)) hx hb dX9_setFields_20 (by decide) ?_
      exact r_iret CF hr hlk hH hS dX9_setFields_22 ⟨by simp [aFld, c7, c17], by simp [c7, c17]⟩

set_option maxRecDepth 100000 in
set_option maxHeartbeats 4000000 in
theorem c_X9_setCrab (l : Launch) (G : Gm) (σ : Sg) (x : Int32) : Met l yX9_setCrab wsX9_setCrab (rmO 1 22) (PP G [.ref (G.2.1 29), .int x] σ) (QI G (RV (aCrb (σ 29 5) x) (if isW x (-100) 100 then u2 σ 29 5 x else σ))) 0 0 (fr G) := by
  refine r_start (cc := cX9_setCrab) (maxL := 3) (ret := (some .int)) (by decide) rfl (Nat.le_of_ble_eq_true rfl) ?_
  intro pz ez sz mz below meth cz ls CF hr hlk hK hH hS hl
  have CF : CallFix pz mz cz cX9_setCrab 3 sz (List.toArray [.ref (G.2.1 29), .int x]) wsX9_setCrab RX9 := CF
  have hx := CF.1
  have hb := CF.2.1
  have hown := CF.2.2.2.1
  have hts := CF.2.2.2.2
  have hl : lv_has ls 3 [(0, .ref (G.2.1 29)), (1, .int x)] := hl
  have K1 := hts _ (List.mem_of_getElem? (i := 1) rfl)
  have JX9 : ∀ w ∈ wsX90, w ∈ wsX9_setCrab := in_r _ [6, 7, 8, 9, 10, 11, 12, 13, 14, 15, 16, 17, 18, 19, 20, 21, 22, 23, 24, 25] (by decide +kernel)
  refine lv_iload_n hx hb dX9_setCrab_0 rfl (lv_at hl 1 rfl) ?_
  refine lv_bipush (v := (-100)) hx hb dX9_setCrab_1 (by decide) ?_
  refine lv_bipush (v := 100) hx hb dX9_setCrab_3 (by decide) ?_
  refine r_cR hS (r_runS (n := 3) (As := [.int x, .int (-100 : Int32), .int (100 : Int32)]) (rest := []) CF hK hH (c_X9_isBetween l G σ x (-100 : Int32) (100 : Int32)) gX9_setCrab_X9_isBetween rfl rfl rfl (by decide +kernel) ⟨⟨Nat.le_of_ble_eq_true rfl, Nat.le_of_ble_eq_true rfl⟩, Nat.le_of_ble_eq_true rfl, Nat.le_of_ble_eq_true rfl⟩ rfl hl.1 rfl (Nat.le_of_ble_eq_true rfl) dX9_setCrab_5) (fun H locs hH hS => ?_)
  refine r_ifneB (tgt := 14) hx hb dX9_setCrab_8 (by decide) (fun c8 => ?_) (fun c8 => ?_)
  · refine lv_aload_n hx hb dX9_setCrab_14 rfl (lv_at hl 0 rfl) ?_
    refine r_get CF hK hH 29 (Nat.le_of_ble_eq_true rfl) rfl rfl JX9 5 (by decide) K1 rfl dX9_setCrab_15 ?_
    refine lv_iload_n hx hb dX9_setCrab_18 rfl (lv_at hl 1 rfl) ?_
    refine lv_icmp_ne (tgt := 26) hx hb dX9_setCrab_19 (by decide) (fun c19 => ?_) (fun c19 => ?_)
    · refine lv_iconst (v := 0) hx hb dX9_setCrab_26 (by decide) ?_
      refine lv_istore_n (lv' := [(2, .int (0 : Int32)), (0, .ref (G.2.1 29)), (1, .int x)]) hx hb dX9_setCrab_27 rfl hl (by decide) rfl (fun ls hl => ?_)
      refine lv_aload_n hx hb dX9_setCrab_28 rfl (lv_at hl 1 rfl) ?_
      refine lv_iload_n hx hb dX9_setCrab_29 rfl (lv_at hl 2 rfl) ?_
      refine r_put CF hK hH hS 29 (Nat.le_of_ble_eq_true rfl) rfl rfl JX9 tyX9 tyX9_ok nmX9 5 (by decide) K1 rfl (by decide +kernel) (Nat.le_of_ble_eq_true rfl) rfl dX9_setCrab_30 (fun H locs hH hS => ?_)
      refine lv_iload_n hx hb dX9_setCrab_33 rfl (lv_at hl 0 rfl) ?_
      refine lv_if_eq (tgt := 41) hx hb dX9_setCrab_34 (by decide) (fun c34 => ?_) (fun c34 => ?_)
      · refine lv_iconst (v := 1) hx hb dX9_setCrab_41 (by decide) ?_
        exact r_iret CF hr hlk hH hS dX9_setCrab_42 ⟨by simp [aCrb, c8, c19, c34], by simp [c8, c19, c34]⟩
      · exact absurd rfl c34
    · refine lv_iconst (v := 1) hx hb dX9_setCrab_22 (by decide) ?_
      refine lv_goto (tgt := 27) hx hb dX9_setCrab_23 (by decide) ?_
      refine lv_istore_n (lv' := [(2, .int (1 : Int32)), (0, .ref (G.2.1 29)), (1, .int x)]) hx hb dX9_setCrab_27 rfl hl (by decide) rfl (fun ls hl => ?_)
      refine lv_aload_n hx hb dX9_setCrab_28 rfl (lv_at hl 1 rfl) ?_
      refine lv_iload_n hx hb dX9_setCrab_29 rfl (lv_at hl 2 rfl) ?_
      refine r_put CF hK hH hS 29 (Nat.le_of_ble_eq_true rfl) rfl rfl JX9 tyX9 tyX9_ok nmX9 5 (by decide) K1 rfl (by decide +kernel) (Nat.le_of_ble_eq_true rfl) rfl dX9_setCrab_30 (fun H locs hH hS => ?_)
      refine lv_iload_n hx hb dX9_setCrab_33 rfl (lv_at hl 0 rfl) ?_
      refine lv_if_eq (tgt := 41) hx hb dX9_setCrab_34 (by decide) (fun c34 => ?_) (fun c34 => ?_)
      · exact absurd c34 (by decide)
      · refine lv_iconst (v := 0) hx hb dX9_setCrab_37 (by decide) ?_
        refine lv_goto (tgt := 42) hx hb dX9_setCrab_38 (by decide) ?_
        exact r_iret CF hr hlk hH hS dX9_setCrab_42 ⟨by simp [aCrb, c8, c19, c34], by simp [c8, c19, c34]⟩
  · refine lv_bipush (v := (-4)) hx hb dX9_setCrab_11 (by decide) ?_
    exact r_iret CF hr hlk hH hS dX9_setCrab_13 ⟨by simp [aCrb, c8], by simp [c8]⟩

set_option maxRecDepth 100000 in
set_option maxHeartbeats 4000000 in
theorem c_X9_setSpeed (l : Launch) (G : Gm) (σ : Sg) (x y z : Int32) : Met l yX9_setSpeed wsX9_setSpeed (rmO 1 22) (PP G [.ref (G.2.1 29), .int x, .int y, .int z] σ) (QI G (RV (aSpd (σ 29 6) (σ 29 7) (σ 29 8) x y z) (if isW x 50 300 && (isW y (-40) 40 && isW z 0 500) then u2 (u2 (u2 σ 29 6 x) 29 7 y) 29 8 z else σ))) 0 0 (fr G) := by
  refine r_start (cc := cX9_setSpeed) (maxL := 5) (ret := (some .int)) (by decide) rfl (Nat.le_of_ble_eq_true rfl) ?_
  intro pz ez sz mz below meth cz ls CF hr hlk hK hH hS hl
  have CF : CallFix pz mz cz cX9_setSpeed 5 sz (List.toArray [.ref (G.2.1 29), .int x, .int y, .int z]) wsX9_setSpeed RX9 := CF
  have hx := CF.1
  have hb := CF.2.1
  have hown := CF.2.2.2.1
  have hts := CF.2.2.2.2
  have hl : lv_has ls 5 [(0, .ref (G.2.1 29)), (1, .int x), (2, .int y), (3, .int z)] := hl
  have K1 := hts _ (List.mem_of_getElem? (i := 1) rfl)
  have K2 := hts _ (List.mem_of_getElem? (i := 2) rfl)
  have K3 := hts _ (List.mem_of_getElem? (i := 3) rfl)
  have JX9 : ∀ w ∈ wsX90, w ∈ wsX9_setSpeed := in_r _ [8, 9, 10, 11, 12, 13, 14, 15, 16, 17, 18, 19, 20, 21, 22, 23, 24, 25, 26, 27] (by decide +kernel)
  refine lv_iload_n hx hb dX9_setSpeed_0 rfl (lv_at hl 1 rfl) ?_
  refine lv_bipush (v := 50) hx hb dX9_setSpeed_1 (by decide) ?_
  refine lv_sipush (v := 300) hx hb dX9_setSpeed_3 (by decide) ?_
  refine r_cR hS (r_runS (n := 3) (As := [.int x, .int (50 : Int32), .int (300 : Int32)]) (rest := []) CF hK hH (c_X9_isBetween l G σ x (50 : Int32) (300 : Int32)) gX9_setSpeed_X9_isBetween rfl rfl rfl (by decide +kernel) ⟨⟨Nat.le_of_ble_eq_true rfl, Nat.le_of_ble_eq_true rfl⟩, Nat.le_of_ble_eq_true rfl, Nat.le_of_ble_eq_true rfl⟩ rfl hl.1 rfl (Nat.le_of_ble_eq_true rfl) dX9_setSpeed_6) (fun H locs hH hS => ?_)
  refine r_ifeqB (tgt := 34) hx hb dX9_setSpeed_9 (by decide) (fun c9 => ?_) (fun c9 => ?_)
  · refine lv_bipush (v := (-4)) hx hb dX9_setSpeed_34 (by decide) ?_
    exact r_iret CF hr hlk hH hS dX9_setSpeed_36 ⟨by simp [aSpd, c9], by simp [c9]⟩
  · refine lv_iload_n hx hb dX9_setSpeed_12 rfl (lv_at hl 2 rfl) ?_
    refine lv_bipush (v := (-40)) hx hb dX9_setSpeed_13 (by decide) ?_
    refine lv_bipush (v := 40) hx hb dX9_setSpeed_15 (by decide) ?_
    refine r_cR hS (r_runS (n := 3) (As := [.int y, .int (-40 : Int32), .int (40 : Int32)]) (rest := []) CF hK hH (c_X9_isBetween l G σ y (-40 : Int32) (40 : Int32)) gX9_setSpeed_X9_isBetween rfl rfl rfl (by decide +kernel) ⟨⟨Nat.le_of_ble_eq_true rfl, Nat.le_of_ble_eq_true rfl⟩, Nat.le_of_ble_eq_true rfl, Nat.le_of_ble_eq_true rfl⟩ rfl hl.1 rfl (Nat.le_of_ble_eq_true rfl) dX9_setSpeed_17) (fun H locs hH hS => ?_)
    refine r_ifeqB (tgt := 34) hx hb dX9_setSpeed_20 (by decide) (fun c20 => ?_) (fun c20 => ?_)
    · refine lv_bipush (v := (-4)) hx hb dX9_setSpeed_34 (by decide) ?_
      exact r_iret CF hr hlk hH hS dX9_setSpeed_36 ⟨by simp [aSpd, c9, c20], by simp [c9, c20]⟩
    · refine lv_iload_n hx hb dX9_setSpeed_23 rfl (lv_at hl 3 rfl) ?_
      refine lv_iconst (v := 0) hx hb dX9_setSpeed_24 (by decide) ?_
      refine lv_sipush (v := 500) hx hb dX9_setSpeed_25 (by decide) ?_
      refine r_cR hS (r_runS (n := 3) (As := [.int z, .int (0 : Int32), .int (500 : Int32)]) (rest := []) CF hK hH (c_X9_isBetween l G σ z (0 : Int32) (500 : Int32)) gX9_setSpeed_X9_isBetween rfl rfl rfl (by decide +kernel) ⟨⟨Nat.le_of_ble_eq_true rfl, Nat.le_of_ble_eq_true rfl⟩, Nat.le_of_ble_eq_true rfl, Nat.le_of_ble_eq_true rfl⟩ rfl hl.1 rfl (Nat.le_of_ble_eq_true rfl) dX9_setSpeed_28) (fun H locs hH hS => ?_)
      refine r_ifneB (tgt := 37) hx hb dX9_setSpeed_31 (by decide) (fun c31 => ?_) (fun c31 => ?_)
      · refine lv_aload_n hx hb dX9_setSpeed_37 rfl (lv_at hl 0 rfl) ?_
        refine r_get CF hK hH 29 (Nat.le_of_ble_eq_true rfl) rfl rfl JX9 6 (by decide) K1 rfl dX9_setSpeed_38 ?_
        refine lv_iload_n hx hb dX9_setSpeed_41 rfl (lv_at hl 1 rfl) ?_
        refine lv_icmp_ne (tgt := 65) hx hb dX9_setSpeed_42 (by decide) (fun c42 => ?_) (fun c42 => ?_)
        · refine lv_iconst (v := 0) hx hb dX9_setSpeed_65 (by decide) ?_
          refine lv_istore (lv' := [(4, .int (0 : Int32)), (0, .ref (G.2.1 29)), (1, .int x), (2, .int y), (3, .int z)]) hx hb dX9_setSpeed_66 hl (by decide) rfl (fun ls hl => ?_)
          refine lv_aload_n hx hb dX9_setSpeed_68 rfl (lv_at hl 1 rfl) ?_
          refine lv_iload_n hx hb dX9_setSpeed_69 rfl (lv_at hl 2 rfl) ?_
          refine r_put CF hK hH hS 29 (Nat.le_of_ble_eq_true rfl) rfl rfl JX9 tyX9 tyX9_ok nmX9 6 (by decide) K1 rfl (by decide +kernel) (Nat.le_of_ble_eq_true rfl) rfl dX9_setSpeed_70 (fun H locs hH hS => ?_)
          refine lv_aload_n hx hb dX9_setSpeed_73 rfl (lv_at hl 1 rfl) ?_
          refine lv_iload_n hx hb dX9_setSpeed_74 rfl (lv_at hl 3 rfl) ?_
          refine r_put CF hK hH hS 29 (Nat.le_of_ble_eq_true rfl) rfl rfl JX9 tyX9 tyX9_ok nmX9 7 (by decide) K2 rfl (by decide +kernel) (Nat.le_of_ble_eq_true rfl) rfl dX9_setSpeed_75 (fun H locs hH hS => ?_)
          refine lv_aload_n hx hb dX9_setSpeed_78 rfl (lv_at hl 1 rfl) ?_
          refine lv_iload_n hx hb dX9_setSpeed_79 rfl (lv_at hl 4 rfl) ?_
          refine r_put CF hK hH hS 29 (Nat.le_of_ble_eq_true rfl) rfl rfl JX9 tyX9 tyX9_ok nmX9 8 (by decide) K3 rfl (by decide +kernel) (Nat.le_of_ble_eq_true rfl) rfl dX9_setSpeed_80 (fun H locs hH hS => ?_)
          refine lv_iload hx hb dX9_setSpeed_83 (lv_at hl 0 rfl) ?_
          refine lv_if_eq (tgt := 92) hx hb dX9_setSpeed_85 (by decide) (fun c85 => ?_) (fun c85 => ?_)
          · refine lv_iconst (v := 1) hx hb dX9_setSpeed_92 (by decide) ?_
            exact r_iret CF hr hlk hH hS dX9_setSpeed_93 ⟨by simp [aSpd, c9, c20, c31, c42, c85], by simp [c9, c20, c31, c42, c85]⟩
          · exact absurd rfl c85
        · refine lv_aload_n hx hb dX9_setSpeed_45 rfl (lv_at hl 0 rfl) ?_
          refine r_get CF hK hH 29 (Nat.le_of_ble_eq_true rfl) rfl rfl JX9 7 (by decide) K2 rfl dX9_setSpeed_46 ?_
          refine lv_iload_n hx hb dX9_setSpeed_49 rfl (lv_at hl 2 rfl) ?_
          refine lv_icmp_ne (tgt := 65) hx hb dX9_setSpeed_50 (by decide) (fun c50 => ?_) (fun c50 => ?_)
          · refine lv_iconst (v := 0) hx hb dX9_setSpeed_65 (by decide) ?_
            refine lv_istore (lv' := [(4, .int (0 : Int32)), (0, .ref (G.2.1 29)), (1, .int x), (2, .int y), (3, .int z)]) hx hb dX9_setSpeed_66 hl (by decide) rfl (fun ls hl => ?_)
            refine lv_aload_n hx hb dX9_setSpeed_68 rfl (lv_at hl 1 rfl) ?_
            refine lv_iload_n hx hb dX9_setSpeed_69 rfl (lv_at hl 2 rfl) ?_
            refine r_put CF hK hH hS 29 (Nat.le_of_ble_eq_true rfl) rfl rfl JX9 tyX9 tyX9_ok nmX9 6 (by decide) K1 rfl (by decide +kernel) (Nat.le_of_ble_eq_true rfl) rfl dX9_setSpeed_70 (fun H locs hH hS => ?_)
            refine lv_aload_n hx hb dX9_setSpeed_73 rfl (lv_at hl 1 rfl) ?_
            refine lv_iload_n hx hb dX9_setSpeed_74 rfl (lv_at hl 3 rfl) ?_
            refine r_put CF hK hH hS 29 (Nat.le_of_ble_eq_true rfl) rfl rfl JX9 tyX9 tyX9_ok nmX9 7 (by decide) K2 rfl (by decide +kernel) (Nat.le_of_ble_eq_true rfl) rfl dX9_setSpeed_75 (fun H locs hH hS => ?_)
            refine lv_aload_n hx hb dX9_setSpeed_78 rfl (lv_at hl 1 rfl) ?_
            refine lv_iload_n hx hb dX9_setSpeed_79 rfl (lv_at hl 4 rfl) ?_
            refine r_put CF hK hH hS 29 (Nat.le_of_ble_eq_true rfl) rfl rfl JX9 tyX9 tyX9_ok nmX9 8 (by decide) K3 rfl (by decide +kernel) (Nat.le_of_ble_eq_true rfl) rfl dX9_setSpeed_80 (fun H locs hH hS => ?_)
            refine lv_iload hx hb dX9_setSpeed_83 (lv_at hl 0 rfl) ?_
            refine lv_if_eq (tgt := 92) hx hb dX9_setSpeed_85 (by decide) (fun c85 => ?_) (fun c85 => ?_)
            · refine lv_iconst (v := 1) hx hb dX9_setSpeed_92 (by decide) ?_
              exact r_iret CF hr hlk hH hS dX9_setSpeed_93 ⟨by simp [aSpd, c9, c20, c31, c42, c50, c85], by simp [c9, c20, c31, c42, c50, c85]⟩
            · exact absurd rfl c85
          · refine lv_aload_n hx hb dX9_setSpeed_53 rfl (lv_at hl 0 rfl) ?_
            refine r_get CF hK hH 29 (Nat.le_of_ble_eq_true rfl) rfl rfl JX9 8 (by decide) K3 rfl dX9_setSpeed_54 ?_
            refine lv_iload_n hx hb dX9_setSpeed_57 rfl (lv_at hl 3 rfl) ?_
            refine lv_icmp_ne (tgt := 65) hx hb dX9_setSpeed_58 (by decide) (fun c58 => ?_) (fun c58 => ?_)
            · refine lv_iconst (v := 0) hx hb dX9_setSpeed_65 (by decide) ?_
              refine lv_istore (lv' := [(4, .int (0 : Int32)), (0, .ref (G.2.1 29)), (1, .int x), (2, .int y), (3, .int z)]) hx hb dX9_setSpeed_66 hl (by decide) rfl (fun ls hl => ?_)
              refine lv_aload_n hx hb dX9_setSpeed_68 rfl (lv_at hl 1 rfl) ?_
              refine lv_iload_n hx hb dX9_setSpeed_69 rfl (lv_at hl 2 rfl) ?_
              refine r_put CF hK hH hS 29 (Nat.le_of_ble_eq_true rfl) rfl rfl JX9 tyX9 tyX9_ok nmX9 6 (by decide) K1 rfl (by decide +kernel) (Nat.le_of_ble_eq_true rfl) rfl dX9_setSpeed_70 (fun H locs hH hS => ?_)
              refine lv_aload_n hx hb dX9_setSpeed_73 rfl (lv_at hl 1 rfl) ?_
              refine lv_iload_n hx hb dX9_setSpeed_74 rfl (lv_at hl 3 rfl) ?_
              refine r_put CF hK hH hS 29 (Nat.le_of_ble_eq_true rfl) rfl rfl JX9 tyX9 tyX9_ok nmX9 7 (by decide) K2 rfl (by decide +kernel) (Nat.le_of_ble_eq_true rfl) rfl dX9_setSpeed_75 (fun H locs hH hS => ?_)
              refine lv_aload_n hx hb dX9_setSpeed_78 rfl (lv_at hl 1 rfl) ?_
              refine lv_iload_n hx hb dX9_setSpeed_79 rfl (lv_at hl 4 rfl) ?_
              refine r_put CF hK hH hS 29 (Nat.le_of_ble_eq_true rfl) rfl rfl JX9 tyX9 tyX9_ok nmX9 8 (by decide) K3 rfl (by decide +kernel) (Nat.le_of_ble_eq_true rfl) rfl dX9_setSpeed_80 (fun H locs hH hS => ?_)
              refine lv_iload hx hb dX9_setSpeed_83 (lv_at hl 0 rfl) ?_
              refine lv_if_eq (tgt := 92) hx hb dX9_setSpeed_85 (by decide) (fun c85 => ?_) (fun c85 => ?_)
              · refine lv_iconst (v := 1) hx hb dX9_setSpeed_92 (by decide) ?_
                exact r_iret CF hr hlk hH hS dX9_setSpeed_93 ⟨by simp [aSpd, c9, c20, c31, c42, c50, c58, c85], by simp [c9, c20, c31, c42, c50, c58, c85]⟩
              · exact absurd rfl c85
            · refine lv_iconst (v := 1) hx hb dX9_setSpeed_61 (by decide) ?_
              refine lv_goto (tgt := 66) hx hb dX9_setSpeed_62 (by decide) ?_
              refine lv_istore (lv' := [(4, .int (1 : Int32)), (0, .ref (G.2.1 29)), (1, .int x), (2, .int y), (3, .int z)]) hx hb dX9_setSpeed_66 hl (by decide) rfl (fun ls hl => ?_)
              refine lv_aload_n hx hb dX9_setSpeed_68 rfl (lv_at hl 1 rfl) ?_
              refine lv_iload_n hx hb dX9_setSpeed_69 rfl (lv_at hl 2 rfl) ?_
              refine r_put CF hK hH hS 29 (Nat.le_of_ble_eq_true rfl) rfl rfl JX9 tyX9 tyX9_ok nmX9 6 (by decide) K1 rfl (by decide +kernel) (Nat.le_of_ble_eq_true rfl) rfl dX9_setSpeed_70 (fun H locs hH hS => ?_)
              refine lv_aload_n hx hb dX9_setSpeed_73 rfl (lv_at hl 1 rfl) ?_
              refine lv_iload_n hx hb dX9_setSpeed_74 rfl (lv_at hl 3 rfl) ?_
              refine r_put CF hK hH hS 29 (Nat.le_of_ble_eq_true rfl) rfl rfl JX9 tyX9 tyX9_ok nmX9 7 (by decide) K2 rfl (by decide +kernel) (Nat.le_of_ble_eq_true rfl) rfl dX9_setSpeed_75 (fun H locs hH hS => ?_)
              refine lv_aload_n hx hb dX9_setSpeed_78 rfl (lv_at hl 1 rfl) ?_
              refine lv_iload_n hx hb dX9_setSpeed_79 rfl (lv_at hl 4 rfl) ?_
              refine r_put CF hK hH hS 29 (Nat.le_of_ble_eq_true rfl) rfl rfl JX9 tyX9 tyX9_ok nmX9 8 (by decide) K3 rfl (by decide +kernel) (Nat.le_of_ble_eq_true rfl) rfl dX9_setSpeed_80 (fun H locs hH hS => ?_)
              refine lv_iload hx hb dX9_setSpeed_83 (lv_at hl 0 rfl) ?_
              refine lv_if_eq (tgt := 92) hx hb dX9_setSpeed_85 (by decide) (fun c85 => ?_) (fun c85 => ?_)
              · exact absurd c85 (by decide)
              · refine lv_iconst (v := 0) hx hb dX9_setSpeed_88 (by decide) ?_
                refine lv_goto (tgt := 93) hx hb dX9_setSpeed_89 (by decide) ?_
                exact r_iret CF hr hlk hH hS dX9_setSpeed_93 ⟨by simp [aSpd, c9, c20, c31, c42, c50, c58, c85], by simp [c9, c20, c31, c42, c50, c58, c85]⟩
      · refine lv_bipush (v := (-4)) hx hb dX9_setSpeed_34 (by decide) ?_
        exact r_iret CF hr hlk hH hS dX9_setSpeed_36 ⟨by simp [aSpd, c9, c20, c31], by simp [c9, c20, c31]⟩

set_option maxRecDepth 100000 in
set_option maxHeartbeats 4000000 in
theorem c_X9_isStrip (l : Launch) (G : Gm) (σ : Sg) (n : Nat) (hn : σ 29 10 = nI n) (hn8 : n ≤ 8) (x : Int32) : Met l yX9_isStrip wsX9_isStrip (rmO 1 22) (PP G [.ref (G.2.1 29), .int x] σ) (QI G (RV (b2i (inB x n)) σ)) 0 0 (fr G) := by
  refine r_start (cc := cX9_isStrip) (maxL := 2) (ret := (some .boolean)) (by decide) rfl (Nat.le_of_ble_eq_true rfl) ?_
  intro pz ez sz mz below meth cz ls CF hr hlk hK hH hS hl
  have CF : CallFix pz mz cz cX9_isStrip 2 sz (List.toArray [.ref (G.2.1 29), .int x]) wsX9_isStrip RX9 := CF
  have hx := CF.1
  have hb := CF.2.1
  have hown := CF.2.2.2.1
  have hts := CF.2.2.2.2
  have hl : lv_has ls 2 [(0, .ref (G.2.1 29)), (1, .int x)] := hl
  have K1 := hts _ (List.mem_of_getElem? (i := 1) rfl)
  have JX9 : ∀ w ∈ wsX90, w ∈ wsX9_isStrip := in_r _ [6, 7, 8, 9, 10, 11, 12, 13, 14, 15, 16, 17, 18, 19, 20, 21, 22, 23, 24, 25] (by decide +kernel)
  refine lv_iload_n hx hb dX9_isStrip_0 rfl (lv_at hl 1 rfl) ?_
  refine lv_iconst (v := 0) hx hb dX9_isStrip_1 (by decide) ?_
  refine lv_aload_n hx hb dX9_isStrip_2 rfl (lv_at hl 0 rfl) ?_
  refine r_get CF hK hH 29 (Nat.le_of_ble_eq_true rfl) rfl rfl JX9 10 (by decide) K1 rfl dX9_isStrip_3 ?_
  refine r_top (show (σ 29 10 : Int32) = nI n from hn) ?_
  refine lv_iconst (v := 1) hx hb dX9_isStrip_6 (by decide) ?_
  refine lv_isub hx hb dX9_isStrip_7 ?_
  refine r_cR hS (r_runS (n := 3) (As := [.int x, .int (0 : Int32), .int ((nI n) - (1 : Int32))]) (rest := []) CF hK hH (c_X9_isBetween l G σ x (0 : Int32) ((nI n) - (1 : Int32))) gX9_isStrip_X9_isBetween rfl rfl rfl (by decide +kernel) ⟨⟨Nat.le_of_ble_eq_true rfl, Nat.le_of_ble_eq_true rfl⟩, Nat.le_of_ble_eq_true rfl, Nat.le_of_ble_eq_true rfl⟩ rfl hl.1 rfl (Nat.le_of_ble_eq_true rfl) dX9_isStrip_8) (fun H locs hH hS => ?_)
  refine r_top (show (b2i (isW x (0 : Int32) ((nI n) - (1 : Int32))) : Int32) = b2i (inB x n) from (by rw [isW_inB _ (by omega)])) ?_
  exact r_zret CF hr hlk hH hS (b2i_nar _) dX9_isStrip_11 ⟨rfl, rfl⟩

def mput (σ : Sg) (n : Nat) (a b c d : Int32) : Sg := u2 (u2 (u2 (u2 (u2 σ 31 n a) 32 n b) 33 n c) 34 n d) 29 10 (nI (n + 1))

set_option maxRecDepth 100000 in
set_option maxHeartbeats 4000000 in
theorem c_X9_put (l : Launch) (G : Gm) (σ : Sg) (n : Nat) (hn : σ 29 10 = nI n) (hn8 : n < 8) (x y z w : Int32) : Met l yX9_put wsX9_put (rmO 0 0) (PP G [.ref (G.2.1 29), .int x, .int y, .int z, .int w] σ) (QV G (VV (mput σ n x y z w))) 0 0 (fr G) := by
  refine r_start (cc := cX9_put) (maxL := 5) (ret := none) (by decide) rfl (Nat.le_of_ble_eq_true rfl) ?_
  intro pz ez sz mz below meth cz ls CF hr hlk hK hH hS hl
  have CF : CallFix pz mz cz cX9_put 5 sz (List.toArray [.ref (G.2.1 29), .int x, .int y, .int z, .int w]) wsX9_put RX9 := CF
  have hx := CF.1
  have hb := CF.2.1
  have hown := CF.2.2.2.1
  have hts := CF.2.2.2.2
  have hl : lv_has ls 5 [(0, .ref (G.2.1 29)), (1, .int x), (2, .int y), (3, .int z), (4, .int w)] := hl
  have K1 := hts _ (List.mem_of_getElem? (i := 1) rfl)
  have K2 := hts _ (List.mem_of_getElem? (i := 2) rfl)
  have K3 := hts _ (List.mem_of_getElem? (i := 3) rfl)
  have K4 := hts _ (List.mem_of_getElem? (i := 4) rfl)
  have K5 := hts _ (List.mem_of_getElem? (i := 5) rfl)
  have JX9 : ∀ w ∈ wsX90, w ∈ wsX9_put := in_r _ [6, 7, 8, 9, 10, 11, 12, 13, 14, 15, 16, 17, 18, 19, 20, 21, 22, 23, 24, 25] (by decide +kernel)
  refine lv_aload_n hx hb dX9_put_0 rfl (lv_at hl 0 rfl) ?_
  refine r_get CF hK hH 29 (Nat.le_of_ble_eq_true rfl) rfl rfl JX9 11 (by decide) K1 rfl dX9_put_1 ?_
  refine lv_aload_n hx hb dX9_put_4 rfl (lv_at hl 0 rfl) ?_
  refine r_get CF hK hH 29 (Nat.le_of_ble_eq_true rfl) rfl rfl JX9 10 (by decide) K2 rfl dX9_put_5 ?_
  refine r_top (show (σ 29 10 : Int32) = nI n from hn) ?_
  refine lv_iload_n hx hb dX9_put_8 rfl (lv_at hl 1 rfl) ?_
  refine r_iast CF hK hH hS 31 (Nat.le_of_ble_eq_true rfl) (fun _ => rfl) (Nat.le_of_ble_eq_true rfl) n rfl hn8 dX9_put_9 (fun H locs hH hS => ?_)
  refine lv_aload_n hx hb dX9_put_10 rfl (lv_at hl 0 rfl) ?_
  refine r_get CF hK hH 29 (Nat.le_of_ble_eq_true rfl) rfl rfl JX9 12 (by decide) K3 rfl dX9_put_11 ?_
  refine lv_aload_n hx hb dX9_put_14 rfl (lv_at hl 0 rfl) ?_
  refine r_get CF hK hH 29 (Nat.le_of_ble_eq_true rfl) rfl rfl JX9 10 (by decide) K2 rfl dX9_put_15 ?_
  refine r_top (show ((u2 σ 31 n x) 29 10 : Int32) = nI n from hn) ?_
  refine lv_iload_n hx hb dX9_put_18 rfl (lv_at hl 2 rfl) ?_
  refine r_iast CF hK hH hS 32 (Nat.le_of_ble_eq_true rfl) (fun _ => rfl) (Nat.le_of_ble_eq_true rfl) n rfl hn8 dX9_put_19 (fun H locs hH hS => ?_)
  refine lv_aload_n hx hb dX9_put_20 rfl (lv_at hl 0 rfl) ?_
  refine r_get CF hK hH 29 (Nat.le_of_ble_eq_true rfl) rfl rfl JX9 13 (by decide) K4 rfl dX9_put_21 ?_
  refine lv_aload_n hx hb dX9_put_24 rfl (lv_at hl 0 rfl) ?_
  refine r_get CF hK hH 29 (Nat.le_of_ble_eq_true rfl) rfl rfl JX9 10 (by decide) K2 rfl dX9_put_25 ?_
  refine r_top (show ((u2 (u2 σ 31 n x) 32 n y) 29 10 : Int32) = nI n from hn) ?_
  refine lv_iload_n hx hb dX9_put_28 rfl (lv_at hl 3 rfl) ?_
  refine r_iast CF hK hH hS 33 (Nat.le_of_ble_eq_true rfl) (fun _ => rfl) (Nat.le_of_ble_eq_true rfl) n rfl hn8 dX9_put_29 (fun H locs hH hS => ?_)
  refine lv_aload_n hx hb dX9_put_30 rfl (lv_at hl 0 rfl) ?_
  refine r_get CF hK hH 29 (Nat.le_of_ble_eq_true rfl) rfl rfl JX9 14 (by decide) K5 rfl dX9_put_31 ?_
  refine lv_aload_n hx hb dX9_put_34 rfl (lv_at hl 0 rfl) ?_
  refine r_get CF hK hH 29 (Nat.le_of_ble_eq_true rfl) rfl rfl JX9 10 (by decide) K2 rfl dX9_put_35 ?_
  refine r_top (show ((u2 (u2 (u2 σ 31 n x) 32 n y) 33 n z) 29 10 : Int32) = nI n from hn) ?_
  refine lv_iload hx hb dX9_put_38 (lv_at hl 4 rfl) ?_
  refine r_iast CF hK hH hS 34 (Nat.le_of_ble_eq_true rfl) (fun _ => rfl) (Nat.le_of_ble_eq_true rfl) n rfl hn8 dX9_put_40 (fun H locs hH hS => ?_)
  refine lv_aload_n hx hb dX9_put_41 rfl (lv_at hl 0 rfl) ?_
  refine lv_dup hx hb dX9_put_42 rfl ?_
  refine r_get CF hK hH 29 (Nat.le_of_ble_eq_true rfl) rfl rfl JX9 10 (by decide) K2 rfl dX9_put_43 ?_
  refine r_top (show ((u2 (u2 (u2 (u2 σ 31 n x) 32 n y) 33 n z) 34 n w) 29 10 : Int32) = nI n from hn) ?_
  refine lv_iconst (v := 1) hx hb dX9_put_46 (by decide) ?_
  refine lv_iadd hx hb dX9_put_47 ?_
  refine r_top (show (((nI n) + (1 : Int32)) : Int32) = nI (n + 1) from nI_1 n) ?_
  refine r_put CF hK hH hS 29 (Nat.le_of_ble_eq_true rfl) rfl rfl JX9 tyX9 tyX9_ok nmX9 10 (by decide) K2 rfl (by decide +kernel) (Nat.le_of_ble_eq_true rfl) rfl dX9_put_48 (fun H locs hH hS => ?_)
  exact r_vret CF hr hlk hH hS dX9_put_51 rfl

set_option maxRecDepth 100000 in
set_option maxHeartbeats 4000000 in
theorem c_X9_addStrip (l : Launch) (G : Gm) (σ : Sg) (R C n : Nat) (sq : Nat → S4) (hA : MA σ R C n sq) (x f h w : Int32) : Met l yX9_addStrip wsX9_addStrip (rmO 2 44) (PP G [.ref (G.2.1 29), .int x, .int f, .int h, .int w] σ) (QI G (fun r σ' => r = aAdd R C n x f h w ∧ σ' = (if 0 ≤ aAdd R C n x f h w then mput σ n x f h w else σ))) 0 0 (fr G) := by
  refine r_start (cc := cX9_addStrip) (maxL := 5) (ret := (some .int)) (by decide) rfl (Nat.le_of_ble_eq_true rfl) ?_
  intro pz ez sz mz below meth cz ls CF hr hlk hK hH hS hl
  have CF : CallFix pz mz cz cX9_addStrip 5 sz (List.toArray [.ref (G.2.1 29), .int x, .int f, .int h, .int w]) wsX9_addStrip RX9 := CF
  have hx := CF.1
  have hb := CF.2.1
  have hown := CF.2.2.2.1
  have hts := CF.2.2.2.2
  have hl : lv_has ls 5 [(0, .ref (G.2.1 29)), (1, .int x), (2, .int f), (3, .int h), (4, .int w)] := hl
  have K1 := hts _ (List.mem_of_getElem? (i := 1) rfl)
  have JX9 : ∀ w ∈ wsX90, w ∈ wsX9_addStrip := in_r _ [20, 21, 22, 23, 24, 25, 26, 27, 28, 29, 30, 31, 32, 33, 34, 35, 36, 37, 38, 39] (by decide +kernel)
  obtain ⟨hR, hC, hR3, hR10, hC4, hC16, hM⟩ := hA
  have hn := hM.1
  have hn8 := hM.2.1
  refine lv_aload_n hx hb dX9_addStrip_0 rfl (lv_at hl 0 rfl) ?_
  refine lv_iload_n hx hb dX9_addStrip_1 rfl (lv_at hl 1 rfl) ?_
  refine lv_iload_n hx hb dX9_addStrip_2 rfl (lv_at hl 2 rfl) ?_
  refine r_cR hS (r_runV (n := 2) (As := [.int x, .int f]) (rest := []) CF hK hH (c_X9_isCell l G σ R C n sq ⟨hR, hC, hR3, hR10, hC4, hC16, hM⟩ x f) gX9_addStrip_X9_isCell rfl rfl rfl rfl (by decide +kernel) ⟨⟨Nat.le_of_ble_eq_true rfl, Nat.le_of_ble_eq_true rfl⟩, Nat.le_of_ble_eq_true rfl, Nat.le_of_ble_eq_true rfl⟩ 29 rfl (Nat.le_of_ble_eq_true rfl) rfl rfl rfl hl.1 rfl (Nat.le_of_ble_eq_true rfl) dX9_addStrip_3) (fun H locs hH hS => ?_)
  refine r_ifeqB (tgt := 18) hx hb dX9_addStrip_6 (by decide) (fun c6 => ?_) (fun c6 => ?_)
  · refine lv_iconst (v := (-1)) hx hb dX9_addStrip_18 (by decide) ?_
    exact r_iret CF hr hlk hH hS dX9_addStrip_19 (by have e : aAdd R C n x f h w = -1 := (by simp [aAdd, c6]); rw [e]; exact ⟨rfl, rfl⟩)
  · refine lv_aload_n hx hb dX9_addStrip_9 rfl (lv_at hl 0 rfl) ?_
    refine lv_iload_n hx hb dX9_addStrip_10 rfl (lv_at hl 1 rfl) ?_
    refine lv_iload_n hx hb dX9_addStrip_11 rfl (lv_at hl 3 rfl) ?_
    refine r_cR hS (r_runV (n := 2) (As := [.int x, .int h]) (rest := []) CF hK hH (c_X9_isCell l G σ R C n sq ⟨hR, hC, hR3, hR10, hC4, hC16, hM⟩ x h) gX9_addStrip_X9_isCell rfl rfl rfl rfl (by decide +kernel) ⟨⟨Nat.le_of_ble_eq_true rfl, Nat.le_of_ble_eq_true rfl⟩, Nat.le_of_ble_eq_true rfl, Nat.le_of_ble_eq_true rfl⟩ 29 rfl (Nat.le_of_ble_eq_true rfl) rfl rfl rfl hl.1 rfl (Nat.le_of_ble_eq_true rfl) dX9_addStrip_12) (fun H locs hH hS => ?_)
    refine r_ifneB (tgt := 20) hx hb dX9_addStrip_15 (by decide) (fun c15 => ?_) (fun c15 => ?_)
    · refine lv_iload_n hx hb dX9_addStrip_20 rfl (lv_at hl 3 rfl) ?_
      refine lv_iload_n hx hb dX9_addStrip_21 rfl (lv_at hl 2 rfl) ?_
      refine lv_icmp_lt (tgt := 36) hx hb dX9_addStrip_22 (by decide) (fun c22 => ?_) (fun c22 => ?_)
      · refine lv_bipush (v := (-4)) hx hb dX9_addStrip_36 (by decide) ?_
        exact r_iret CF hr hlk hH hS dX9_addStrip_38 (by have e : aAdd R C n x f h w = -4 := (by simp [aAdd, c6, c15, c22]); rw [e]; exact ⟨rfl, rfl⟩)
      · refine lv_iload hx hb dX9_addStrip_25 (lv_at hl 4 rfl) ?_
        refine lv_iconst (v := 1) hx hb dX9_addStrip_27 (by decide) ?_
        refine lv_bipush (v := 16) hx hb dX9_addStrip_28 (by decide) ?_
        refine r_cR hS (r_runS (n := 3) (As := [.int w, .int (1 : Int32), .int (16 : Int32)]) (rest := []) CF hK hH (c_X9_isBetween l G σ w (1 : Int32) (16 : Int32)) gX9_addStrip_X9_isBetween rfl rfl rfl (by decide +kernel) ⟨⟨Nat.le_of_ble_eq_true rfl, Nat.le_of_ble_eq_true rfl⟩, Nat.le_of_ble_eq_true rfl, Nat.le_of_ble_eq_true rfl⟩ rfl hl.1 rfl (Nat.le_of_ble_eq_true rfl) dX9_addStrip_30) (fun H locs hH hS => ?_)
        refine r_ifneB (tgt := 39) hx hb dX9_addStrip_33 (by decide) (fun c33 => ?_) (fun c33 => ?_)
        · refine lv_aload_n hx hb dX9_addStrip_39 rfl (lv_at hl 0 rfl) ?_
          refine r_get CF hK hH 29 (Nat.le_of_ble_eq_true rfl) rfl rfl JX9 10 (by decide) K1 rfl dX9_addStrip_40 ?_
          refine r_top (show (σ 29 10 : Int32) = nI n from hn) ?_
          refine lv_bipush (v := 8) hx hb dX9_addStrip_43 (by decide) ?_
          refine lv_icmp_ne (tgt := 51) hx hb dX9_addStrip_45 (by decide) (fun c45 => ?_) (fun c45 => ?_)
          · have c45 : ¬ n = 8 := fun zq => c45 (by rw [zq]; rfl)
            refine lv_aload_n hx hb dX9_addStrip_51 rfl (lv_at hl 0 rfl) ?_
            refine lv_iload_n hx hb dX9_addStrip_52 rfl (lv_at hl 1 rfl) ?_
            refine lv_iload_n hx hb dX9_addStrip_53 rfl (lv_at hl 2 rfl) ?_
            refine lv_iload_n hx hb dX9_addStrip_54 rfl (lv_at hl 3 rfl) ?_
            refine lv_iload hx hb dX9_addStrip_55 (lv_at hl 4 rfl) ?_
            refine r_cV hS (r_runV (n := 4) (As := [.int x, .int f, .int h, .int w]) (rest := []) CF hK hH (c_X9_put l G σ n hn (by omega) x f h w) gX9_addStrip_X9_put rfl rfl rfl rfl (by decide +kernel) ⟨⟨Nat.le_of_ble_eq_true rfl, Nat.le_of_ble_eq_true rfl⟩, Nat.le_of_ble_eq_true rfl, Nat.le_of_ble_eq_true rfl⟩ 29 rfl (Nat.le_of_ble_eq_true rfl) rfl rfl rfl hl.1 rfl (Nat.le_of_ble_eq_true rfl) dX9_addStrip_57) (fun H locs hH hS => ?_)
            refine lv_aload_n hx hb dX9_addStrip_60 rfl (lv_at hl 0 rfl) ?_
            refine r_get CF hK hH 29 (Nat.le_of_ble_eq_true rfl) rfl rfl JX9 10 (by decide) K1 rfl dX9_addStrip_61 ?_
            refine r_top (show ((mput σ n x f h w) 29 10 : Int32) = nI (n + 1) from (by rfl)) ?_
            refine lv_iconst (v := 1) hx hb dX9_addStrip_64 (by decide) ?_
            refine lv_isub hx hb dX9_addStrip_65 ?_
            refine r_top (show (((nI (n + 1)) - (1 : Int32)) : Int32) = nI n from (by grind [nI_1 n])) ?_
            exact r_iret CF hr hlk hH hS dX9_addStrip_66 (by have e : aAdd R C n x f h w = nI n := (by simp [aAdd, c6, c15, c22, c33, c45]); rw [e, if_pos (nI_pos' (by omega))]; exact ⟨rfl, rfl⟩)
          · have c45 : n = 8 := (nI_eq (b := 8) (by omega) (by omega)).mp c45
            refine lv_bipush (v := (-5)) hx hb dX9_addStrip_48 (by decide) ?_
            exact r_iret CF hr hlk hH hS dX9_addStrip_50 (by have e : aAdd R C n x f h w = -5 := (by simp [aAdd, c6, c15, c22, c33, c45]); rw [e]; exact ⟨rfl, rfl⟩)
        · refine lv_bipush (v := (-4)) hx hb dX9_addStrip_36 (by decide) ?_
          exact r_iret CF hr hlk hH hS dX9_addStrip_38 (by have e : aAdd R C n x f h w = -4 := (by simp [aAdd, c6, c15, c22, c33]); rw [e]; exact ⟨rfl, rfl⟩)
    · refine lv_iconst (v := (-1)) hx hb dX9_addStrip_18 (by decide) ?_
      exact r_iret CF hr hlk hH hS dX9_addStrip_19 (by have e : aAdd R C n x f h w = -1 := (by simp [aAdd, c6, c15]); rw [e]; exact ⟨rfl, rfl⟩)

def mrm (σ : Sg) (j i : Nat) : Sg := fun k f => if (31 ≤ k ∧ k ≤ 34) ∧ (j ≤ f ∧ f < i) then σ k (f + 1) else σ k f
theorem mrm_0 (σ : Sg) (j : Nat) : mrm σ j j = σ := by
  funext k f; unfold mrm; rw [if_neg (by omega)]
theorem mrm_at (σ : Sg) {j i k f : Nat} (h : i ≤ f) : mrm σ j i k f = σ k f := by unfold mrm; rw [if_neg (by omega)]
theorem mrm_n (σ : Sg) {j i k : Nat} (h : ¬ (31 ≤ k ∧ k ≤ 34)) : mrm σ j i k = σ k := by funext f; unfold mrm; rw [if_neg (by omega)]
theorem mrm_s (σ : Sg) {j i : Nat} (h : j ≤ i) : u2 (u2 (u2 (u2 (mrm σ j i) 31 i (σ 31 (i + 1))) 32 i (σ 32 (i + 1))) 33 i (σ 33 (i + 1))) 34 i (σ 34 (i + 1)) = mrm σ j (i + 1) := by
  funext k f
  have key : ∀ K, 31 ≤ K → K ≤ 34 → f ≠ i → mrm σ j i K f = mrm σ j (i + 1) K f := by
    intro K h1 h2 h3
    unfold mrm
    by_cases hc : j ≤ f ∧ f < i
    · rw [if_pos ⟨⟨h1, h2⟩, hc⟩, if_pos ⟨⟨h1, h2⟩, by omega⟩]
    · rw [if_neg (by omega), if_neg (by omega)]
  have key2 : ∀ K, 31 ≤ K → K ≤ 34 → σ K (i + 1) = mrm σ j (i + 1) K i := by
    intro K h1 h2
    unfold mrm
    rw [if_pos ⟨⟨h1, h2⟩, by omega⟩]
  by_cases h4 : k = 34
  · subst h4
    by_cases hf : f = i
    · subst hf; rw [u2_ss]; exact key2 34 (by omega) (by omega)
    · rw [u2_sn _ _ _ hf]; exact key 34 (by omega) (by omega) hf
  rw [u2_n _ _ _ h4]
  by_cases h3 : k = 33
  · subst h3
    by_cases hf : f = i
    · subst hf; rw [u2_ss]; exact key2 33 (by omega) (by omega)
    · rw [u2_sn _ _ _ hf]; exact key 33 (by omega) (by omega) hf
  rw [u2_n _ _ _ h3]
  by_cases h2 : k = 32
  · subst h2
    by_cases hf : f = i
    · subst hf; rw [u2_ss]; exact key2 32 (by omega) (by omega)
    · rw [u2_sn _ _ _ hf]; exact key 32 (by omega) (by omega) hf
  rw [u2_n _ _ _ h2]
  by_cases h1 : k = 31
  · subst h1
    by_cases hf : f = i
    · subst hf; rw [u2_ss]; exact key2 31 (by omega) (by omega)
    · rw [u2_sn _ _ _ hf]; exact key 31 (by omega) (by omega) hf
  rw [u2_n _ _ _ h1, mrm_n σ (by omega), mrm_n σ (by omega)]

set_option maxRecDepth 100000 in
set_option maxHeartbeats 4000000 in
theorem c_X9_removeStrip (l : Launch) (G : Gm) (σ : Sg) (n : Nat) (hn : σ 29 10 = nI n) (hn8 : n ≤ 8) (x : Int32) : Met l yX9_removeStrip wsX9_removeStrip (rmO 2 43) (PP G [.ref (G.2.1 29), .int x] σ) (QI G (RV (aRem n x) (if inB x n then mrm (u2 σ 29 10 (nI (n - 1))) (NN x) (n - 1) else σ))) 0 0 (fr G) := by
  refine r_start (cc := cX9_removeStrip) (maxL := 3) (ret := (some .int)) (by decide) rfl (Nat.le_of_ble_eq_true rfl) ?_
  intro pz ez sz mz below meth cz ls CF hr hlk hK hH hS hl
  have CF : CallFix pz mz cz cX9_removeStrip 3 sz (List.toArray [.ref (G.2.1 29), .int x]) wsX9_removeStrip RX9 := CF
  have hx := CF.1
  have hb := CF.2.1
  have hown := CF.2.2.2.1
  have hts := CF.2.2.2.2
  have hl : lv_has ls 3 [(0, .ref (G.2.1 29)), (1, .int x)] := hl
  have K1 := hts _ (List.mem_of_getElem? (i := 1) rfl)
  have K2 := hts _ (List.mem_of_getElem? (i := 2) rfl)
  have K3 := hts _ (List.mem_of_getElem? (i := 3) rfl)
  have K4 := hts _ (List.mem_of_getElem? (i := 4) rfl)
  have K5 := hts _ (List.mem_of_getElem? (i := 5) rfl)
  have JX9 : ∀ w ∈ wsX90, w ∈ wsX9_removeStrip := in_r _ [14, 15, 16, 17, 18, 19, 20, 21, 22, 23, 24, 25, 26, 27, 28, 29, 30, 31, 32, 33] (by decide +kernel)
  refine lv_aload_n hx hb dX9_removeStrip_0 rfl (lv_at hl 0 rfl) ?_
  refine lv_iload_n hx hb dX9_removeStrip_1 rfl (lv_at hl 1 rfl) ?_
  refine r_cR hS (r_runV (n := 1) (As := [.int x]) (rest := []) CF hK hH (c_X9_isStrip l G σ n hn hn8 x) gX9_removeStrip_X9_isStrip rfl rfl rfl rfl (by decide +kernel) ⟨⟨Nat.le_of_ble_eq_true rfl, Nat.le_of_ble_eq_true rfl⟩, Nat.le_of_ble_eq_true rfl, Nat.le_of_ble_eq_true rfl⟩ 29 rfl (Nat.le_of_ble_eq_true rfl) rfl rfl rfl hl.1 rfl (Nat.le_of_ble_eq_true rfl) dX9_removeStrip_2) (fun H locs hH hS => ?_)
  refine r_ifneB (tgt := 11) hx hb dX9_removeStrip_5 (by decide) (fun c5 => ?_) (fun c5 => ?_)
  · obtain ⟨j, hj, hij⟩ := inB_of c5 (by omega)
    have hjN := N_of hij (by omega)
    refine lv_aload_n hx hb dX9_removeStrip_11 rfl (lv_at hl 0 rfl) ?_
    refine lv_dup hx hb dX9_removeStrip_12 rfl ?_
    refine r_get CF hK hH 29 (Nat.le_of_ble_eq_true rfl) rfl rfl JX9 10 (by decide) K1 rfl dX9_removeStrip_13 ?_
    refine r_top (show (σ 29 10 : Int32) = nI n from hn) ?_
    refine lv_iconst (v := 1) hx hb dX9_removeStrip_16 (by decide) ?_
    refine lv_isub hx hb dX9_removeStrip_17 ?_
    refine r_top (show (((nI n) - (1 : Int32)) : Int32) = nI (n - 1) from (pk_sub (b := 1) (by omega))) ?_
    refine r_put CF hK hH hS 29 (Nat.le_of_ble_eq_true rfl) rfl rfl JX9 tyX9 tyX9_ok nmX9 10 (by decide) K1 rfl (by decide +kernel) (Nat.le_of_ble_eq_true rfl) rfl dX9_removeStrip_18 (fun H locs hH hS => ?_)
    refine lv_iload_n hx hb dX9_removeStrip_21 rfl (lv_at hl 1 rfl) ?_
    refine r_top (show (x : Int32) = nI j from hij) ?_
    refine lv_istore_n (lv' := [(2, .int (nI j)), (0, .ref (G.2.1 29)), (1, .int x)]) hx hb dX9_removeStrip_22 rfl hl (by decide) rfl (fun ls hl => ?_)
    have lp23 : ∀ (fu : Nat) (i : Nat) (σ1 : Sg) (H : Heap) (locs : List Loc) (ls : Array Slot), (n + 1 ≤ i + fu) → (j ≤ i) → (i ≤ n - 1) → (σ1 = mrm (u2 σ 29 10 (nI (n - 1))) j i) → Hp G σ1 H → va_S (fr G) sz.heap H locs → lv_has ls 3 [(0, .ref (G.2.1 29)), (2, .int (nI i))] → W pz l ez (rmO 2 43) sz mz (List.toArray [.ref (G.2.1 29), .int x]) below meth cz H locs 0 0 (MQ below (QI G (RV (aRem n x) (if inB x n then mrm (u2 σ 29 10 (nI (n - 1))) (NN x) (n - 1) else σ))) (List.toArray [.ref (G.2.1 29), .int x]) sz 0 0 (fr G)) (F0 mz 23 ls []) := by
      intro fu
      induction fu with
      | zero => intros; omega
      | succ fu ih23 =>
        intro i σ1 H locs ls hf hji hi hσ hH hS hl
        refine lv_iload_n hx hb dX9_removeStrip_23 rfl (lv_at hl 1 rfl) ?_
        refine lv_aload_n hx hb dX9_removeStrip_24 rfl (lv_at hl 0 rfl) ?_
        refine r_get CF hK hH 29 (Nat.le_of_ble_eq_true rfl) rfl rfl JX9 10 (by decide) K1 rfl dX9_removeStrip_25 ?_
        refine r_top (show (σ1 29 10 : Int32) = nI (n - 1) from (by rw [hσ, mrm_n _ (by omega)]; exact u2_ss _ _ _ _)) ?_
        refine lv_icmp_ge (tgt := 93) hx hb dX9_removeStrip_28 (by decide) (fun c28 => ?_) (fun c28 => ?_)
        · have c28 : (n - 1) ≤ i := (nI_leI (a := (n - 1)) (b := i) (by omega) (by omega)).mp c28
          refine lv_aload_n hx hb dX9_removeStrip_93 rfl (lv_at hl 0 rfl) ?_
          refine r_get CF hK hH 29 (Nat.le_of_ble_eq_true rfl) rfl rfl JX9 10 (by decide) K1 rfl dX9_removeStrip_94 ?_
          refine r_top (show (σ1 29 10 : Int32) = nI (n - 1) from (by rw [hσ, mrm_n _ (by omega)]; exact u2_ss _ _ _ _)) ?_
          exact r_iret CF hr hlk hH hS dX9_removeStrip_97 ⟨by simp [aRem, c5], by have e : i = n - 1 := (by omega); rw [hσ, e, if_pos c5, hjN]⟩
        · have c28 : i < (n - 1) := Nat.lt_of_not_le (fun zq => c28 ((nI_leI (a := (n - 1)) (b := i) (by omega) (by omega)).mpr zq))
          refine lv_aload_n hx hb dX9_removeStrip_31 rfl (lv_at hl 0 rfl) ?_
          refine r_get CF hK hH 29 (Nat.le_of_ble_eq_true rfl) rfl rfl JX9 11 (by decide) K2 rfl dX9_removeStrip_32 ?_
          refine lv_iload_n hx hb dX9_removeStrip_35 rfl (lv_at hl 1 rfl) ?_
          refine lv_aload_n hx hb dX9_removeStrip_36 rfl (lv_at hl 0 rfl) ?_
          refine r_get CF hK hH 29 (Nat.le_of_ble_eq_true rfl) rfl rfl JX9 11 (by decide) K2 rfl dX9_removeStrip_37 ?_
          refine lv_iload_n hx hb dX9_removeStrip_40 rfl (lv_at hl 1 rfl) ?_
          refine lv_iconst (v := 1) hx hb dX9_removeStrip_41 (by decide) ?_
          refine lv_iadd hx hb dX9_removeStrip_42 ?_
          refine r_top (show (((nI i) + (1 : Int32)) : Int32) = nI (i + 1) from nI_1 i) ?_
          refine r_iald CF hK hH 31 (Nat.le_of_ble_eq_true rfl) rfl (Nat.le_of_ble_eq_true rfl) (i + 1) rfl (by omega) dX9_removeStrip_43 ?_
          refine r_top (show (σ1 31 (i + 1) : Int32) = σ 31 (i + 1) from (by rw [hσ]; exact mrm_at _ (by omega))) ?_
          refine r_iast CF hK hH hS 31 (Nat.le_of_ble_eq_true rfl) (fun _ => rfl) (Nat.le_of_ble_eq_true rfl) i rfl (by omega) dX9_removeStrip_44 (fun H locs hH hS => ?_)
          refine lv_aload_n hx hb dX9_removeStrip_45 rfl (lv_at hl 0 rfl) ?_
          refine r_get CF hK hH 29 (Nat.le_of_ble_eq_true rfl) rfl rfl JX9 12 (by decide) K3 rfl dX9_removeStrip_46 ?_
          refine lv_iload_n hx hb dX9_removeStrip_49 rfl (lv_at hl 1 rfl) ?_
          refine lv_aload_n hx hb dX9_removeStrip_50 rfl (lv_at hl 0 rfl) ?_
          refine r_get CF hK hH 29 (Nat.le_of_ble_eq_true rfl) rfl rfl JX9 12 (by decide) K3 rfl dX9_removeStrip_51 ?_
          refine lv_iload_n hx hb dX9_removeStrip_54 rfl (lv_at hl 1 rfl) ?_
          refine lv_iconst (v := 1) hx hb dX9_removeStrip_55 (by decide) ?_
          refine lv_iadd hx hb dX9_removeStrip_56 ?_
          refine r_top (show (((nI i) + (1 : Int32)) : Int32) = nI (i + 1) from nI_1 i) ?_
          refine r_iald CF hK hH 32 (Nat.le_of_ble_eq_true rfl) rfl (Nat.le_of_ble_eq_true rfl) (i + 1) rfl (by omega) dX9_removeStrip_57 ?_
          refine r_top (show ((u2 σ1 31 i (σ 31 (i + 1))) 32 (i + 1) : Int32) = σ 32 (i + 1) from (by rw [hσ]; exact mrm_at _ (by omega))) ?_
          refine r_iast CF hK hH hS 32 (Nat.le_of_ble_eq_true rfl) (fun _ => rfl) (Nat.le_of_ble_eq_true rfl) i rfl (by omega) dX9_removeStrip_58 (fun H locs hH hS => ?_)
          refine lv_aload_n hx hb dX9_removeStrip_59 rfl (lv_at hl 0 rfl) ?_
          refine r_get CF hK hH 29 (Nat.le_of_ble_eq_true rfl) rfl rfl JX9 13 (by decide) K4 rfl dX9_removeStrip_60 ?_
          refine lv_iload_n hx hb dX9_removeStrip_63 rfl (lv_at hl 1 rfl) ?_
          refine lv_aload_n hx hb dX9_removeStrip_64 rfl (lv_at hl 0 rfl) ?_
          refine r_get CF hK hH 29 (Nat.le_of_ble_eq_true rfl) rfl rfl JX9 13 (by decide) K4 rfl dX9_removeStrip_65 ?_
          refine lv_iload_n hx hb dX9_removeStrip_68 rfl (lv_at hl 1 rfl) ?_
          refine lv_iconst (v := 1) hx hb dX9_removeStrip_69 (by decide) ?_
          refine lv_iadd hx hb dX9_removeStrip_70 ?_
          refine r_top (show (((nI i) + (1 : Int32)) : Int32) = nI (i + 1) from nI_1 i) ?_
          refine r_iald CF hK hH 33 (Nat.le_of_ble_eq_true rfl) rfl (Nat.le_of_ble_eq_true rfl) (i + 1) rfl (by omega) dX9_removeStrip_71 ?_
          refine r_top (show ((u2 (u2 σ1 31 i (σ 31 (i + 1))) 32 i (σ 32 (i + 1))) 33 (i + 1) : Int32) = σ 33 (i + 1) from (by rw [hσ]; exact mrm_at _ (by omega))) ?_
          refine r_iast CF hK hH hS 33 (Nat.le_of_ble_eq_true rfl) (fun _ => rfl) (Nat.le_of_ble_eq_true rfl) i rfl (by omega) dX9_removeStrip_72 (fun H locs hH hS => ?_)
          refine lv_aload_n hx hb dX9_removeStrip_73 rfl (lv_at hl 0 rfl) ?_
          refine r_get CF hK hH 29 (Nat.le_of_ble_eq_true rfl) rfl rfl JX9 14 (by decide) K5 rfl dX9_removeStrip_74 ?_
          refine lv_iload_n hx hb dX9_removeStrip_77 rfl (lv_at hl 1 rfl) ?_
          refine lv_aload_n hx hb dX9_removeStrip_78 rfl (lv_at hl 0 rfl) ?_
          refine r_get CF hK hH 29 (Nat.le_of_ble_eq_true rfl) rfl rfl JX9 14 (by decide) K5 rfl dX9_removeStrip_79 ?_
          refine lv_iload_n hx hb dX9_removeStrip_82 rfl (lv_at hl 1 rfl) ?_
          refine lv_iconst (v := 1) hx hb dX9_removeStrip_83 (by decide) ?_
          refine lv_iadd hx hb dX9_removeStrip_84 ?_
          refine r_top (show (((nI i) + (1 : Int32)) : Int32) = nI (i + 1) from nI_1 i) ?_
          refine r_iald CF hK hH 34 (Nat.le_of_ble_eq_true rfl) rfl (Nat.le_of_ble_eq_true rfl) (i + 1) rfl (by omega) dX9_removeStrip_85 ?_
          refine r_top (show ((u2 (u2 (u2 σ1 31 i (σ 31 (i + 1))) 32 i (σ 32 (i + 1))) 33 i (σ 33 (i + 1))) 34 (i + 1) : Int32) = σ 34 (i + 1) from (by rw [hσ]; exact mrm_at _ (by omega))) ?_
          refine r_iast CF hK hH hS 34 (Nat.le_of_ble_eq_true rfl) (fun _ => rfl) (Nat.le_of_ble_eq_true rfl) i rfl (by omega) dX9_removeStrip_86 (fun H locs hH hS => ?_)
          refine lv_iinc (v := nI (i + 1)) (lv' := [(2, .int (nI (i + 1))), (0, .ref (G.2.1 29))]) hx hb dX9_removeStrip_87 hl (k := 1) rfl (nI_1 _) (by decide) rfl (fun ls hl => ?_)
          refine lv_goto (tgt := 23) hx hb dX9_removeStrip_90 (by decide) ?_
          exact ih23 (i + 1) (u2 (u2 (u2 (u2 σ1 31 i (σ 31 (i + 1))) 32 i (σ 32 (i + 1))) 33 i (σ 33 (i + 1))) 34 i (σ 34 (i + 1))) _ _ ls (by omega) (by omega) (by omega) (by rw [hσ]; exact mrm_s (u2 σ 29 10 (nI (n - 1))) hji) hH hS (lv_sub hl [1, 0] rfl)
    exact lp23 (n + 1) j (u2 σ 29 10 (nI (n - 1))) _ _ ls (by omega) (by omega) (by omega) (mrm_0 _ j).symm hH hS (lv_sub hl [1, 0] rfl)
  · refine lv_bipush (v := (-2)) hx hb dX9_removeStrip_8 (by decide) ?_
    exact r_iret CF hr hlk hH hS dX9_removeStrip_10 ⟨by simp [aRem, c5], by simp [c5]⟩

set_option maxRecDepth 100000 in
set_option maxHeartbeats 4000000 in
theorem c_X9_stripCount (l : Launch) (G : Gm) (σ : Sg) (n : Nat) (hn : σ 29 10 = nI n) : Met l yX9_stripCount wsX9_stripCount (rmO 0 0) (PP G [.ref (G.2.1 29)] σ) (QI G (RV (nI n) σ)) 0 0 (fr G) := by
  refine r_start (cc := cX9_stripCount) (maxL := 1) (ret := (some .int)) (by decide) rfl (Nat.le_of_ble_eq_true rfl) ?_
  intro pz ez sz mz below meth cz ls CF hr hlk hK hH hS hl
  have CF : CallFix pz mz cz cX9_stripCount 1 sz (List.toArray [.ref (G.2.1 29)]) wsX9_stripCount RX9 := CF
  have hx := CF.1
  have hb := CF.2.1
  have hown := CF.2.2.2.1
  have hts := CF.2.2.2.2
  have hl : lv_has ls 1 [(0, .ref (G.2.1 29))] := hl
  have K1 := hts _ (List.mem_of_getElem? (i := 1) rfl)
  have JX9 : ∀ w ∈ wsX90, w ∈ wsX9_stripCount := in_r _ [2, 3, 4, 5, 6, 7, 8, 9, 10, 11, 12, 13, 14, 15, 16, 17, 18, 19, 20, 21] (by decide +kernel)
  refine lv_aload_n hx hb dX9_stripCount_0 rfl (lv_at hl 0 rfl) ?_
  refine r_get CF hK hH 29 (Nat.le_of_ble_eq_true rfl) rfl rfl JX9 10 (by decide) K1 rfl dX9_stripCount_1 ?_
  refine r_top (show (σ 29 10 : Int32) = nI n from hn) ?_
  exact r_iret CF hr hlk hH hS dX9_stripCount_4 ⟨rfl, rfl⟩
