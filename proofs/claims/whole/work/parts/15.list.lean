def totF (sq : Nat → S4) : Nat → Nat
  | 0 => 0
  | i + 1 => totF sq i + phF (sq i)
theorem VSat {σ : Sg} {b n : Nat} {sq : Nat → S4} (hL : LSt σ b n sq) {i : Nat} (h : i < n) : VS σ (8 * b + i) (sq i) := hL.2.2 i h

set_option maxRecDepth 100000 in
set_option maxHeartbeats 4000000 in
theorem c_X6_photoTotal (l : Launch) (G : Gm) (σ : Sg) (b : Nat) (hb2 : b < 2) (n : Nat) (sq : Nat → S4) (hL : LSt σ b n sq) : Met l yX6_photoTotal wsX6_photoTotal (rmO 2 41) (PP G [.ref (G.2.1 (16 + b))] σ) (QI G (RV (nI (totF sq n)) σ)) 0 0 (fr G) := by
  refine r_start (cc := cX6_photoTotal) (maxL := 3) (ret := (some .int)) (by decide) rfl (Nat.le_of_ble_eq_true rfl) ?_
  intro pz ez sz mz below meth cz ls CF hr hlk hK hH hS hl
  have CF : CallFix pz mz cz cX6_photoTotal 3 sz (List.toArray [.ref (G.2.1 (16 + b))]) wsX6_photoTotal RX6 := CF
  have hx := CF.1
  have hb := CF.2.1
  have hown := CF.2.2.2.1
  have hts := CF.2.2.2.2
  have hl : lv_has ls 3 [(0, .ref (G.2.1 (16 + b)))] := hl
  have K1 := hts _ (List.mem_of_getElem? (i := 1) rfl)
  have K2 := hts _ (List.mem_of_getElem? (i := 2) rfl)
  have JX6 : ∀ w ∈ wsX60, w ∈ wsX6_photoTotal := in_r _ [14, 15] (by decide +kernel)
  have hn := hL.1
  have hn8 := hL.2.1
  refine lv_iconst (v := 0) hx hb dX6_photoTotal_0 (by decide) ?_
  refine lv_istore_n (lv' := [(1, .int (0 : Int32)), (0, .ref (G.2.1 (16 + b)))]) hx hb dX6_photoTotal_1 rfl hl (by decide) rfl (fun ls hl => ?_)
  refine lv_iconst (v := 0) hx hb dX6_photoTotal_2 (by decide) ?_
  refine lv_istore_n (lv' := [(2, .int (0 : Int32)), (1, .int (0 : Int32)), (0, .ref (G.2.1 (16 + b)))]) hx hb dX6_photoTotal_3 rfl hl (by decide) rfl (fun ls hl => ?_)
  have lp4 : ∀ (fu : Nat) (i : Nat) (x1 : Int32) (H : Heap) (locs : List Loc) (ls : Array Slot), (n + 1 ≤ i + fu) → (i ≤ n) → (x1 = nI (totF sq i)) → Hp G σ H → va_S (fr G) sz.heap H locs → lv_has ls 3 [(0, .ref (G.2.1 (16 + b))), (1, .int x1), (2, .int (nI i))] → W pz l ez (rmO 2 41) sz mz (List.toArray [.ref (G.2.1 (16 + b))]) below meth cz H locs 0 0 (MQ below (QI G (RV (nI (totF sq n)) σ)) (List.toArray [.ref (G.2.1 (16 + b))]) sz 0 0 (fr G)) (F0 mz 4 ls []) := by
    intro fu
    induction fu with
    | zero => intros; omega
    | succ fu ih4 =>
      intro i x1 H locs ls hf hi h1 hH hS hl
      refine lv_iload_n hx hb dX6_photoTotal_4 rfl (lv_at hl 2 rfl) ?_
      refine lv_aload_n hx hb dX6_photoTotal_5 rfl (lv_at hl 0 rfl) ?_
      refine r_get CF hK hH (16 + b) (by omega) (we_l G hb2 _) rfl JX6 0 (by decide) K1 rfl dX6_photoTotal_6 ?_
      refine r_top (show (σ (16 + b) 0 : Int32) = nI n from hn) ?_
      refine lv_icmp_ge (tgt := 30) hx hb dX6_photoTotal_9 (by decide) (fun c9 => ?_) (fun c9 => ?_)
      · have c9 : n ≤ i := (nI_leI (a := n) (b := i) (by omega) (by omega)).mp c9
        refine lv_iload_n hx hb dX6_photoTotal_30 rfl (lv_at hl 1 rfl) ?_
        exact r_iret CF hr hlk hH hS dX6_photoTotal_31 ⟨by rw [h1]; have e : i = n := (by omega); subst e; rfl, rfl⟩
      · have c9 : i < n := Nat.lt_of_not_le (fun zq => c9 ((nI_leI (a := n) (b := i) (by omega) (by omega)).mpr zq))
        refine lv_iload_n hx hb dX6_photoTotal_12 rfl (lv_at hl 1 rfl) ?_
        refine lv_aload_n hx hb dX6_photoTotal_13 rfl (lv_at hl 0 rfl) ?_
        refine r_get CF hK hH (16 + b) (by omega) (we_l G hb2 _) rfl JX6 1 (by decide) K2 rfl dX6_photoTotal_14 ?_
        refine lv_iload_n hx hb dX6_photoTotal_17 rfl (lv_at hl 2 rfl) ?_
        refine r_aald CF hK hH hb2 i rfl (by omega) dX6_photoTotal_18 ?_
        refine r_cR hS (r_runV (n := 0) (As := []) (rest := [.int x1]) CF hK hH (c_X5_photos l G σ (8 * b + i) (by omega) (sq i) (hL.2.2 i (by omega))) gX6_photoTotal_X5_photos rfl rfl rfl rfl (by decide +kernel) ⟨⟨Nat.le_of_ble_eq_true rfl, Nat.le_of_ble_eq_true rfl⟩, Nat.le_of_ble_eq_true rfl, Nat.le_of_ble_eq_true rfl⟩ (8 * b + i) rfl (by omega) (we_s G (by omega) _) rfl rfl hl.1 rfl (Nat.le_of_ble_eq_true rfl) dX6_photoTotal_19) (fun H locs hH hS => ?_)
        refine lv_iadd hx hb dX6_photoTotal_22 ?_
        refine lv_istore_n (lv' := [(1, .int (x1 + (nI (phF (sq i))))), (0, .ref (G.2.1 (16 + b))), (2, .int (nI i))]) hx hb dX6_photoTotal_23 rfl hl (by decide) rfl (fun ls hl => ?_)
        refine lv_iinc (v := nI (i + 1)) (lv' := [(2, .int (nI (i + 1))), (1, .int (x1 + (nI (phF (sq i))))), (0, .ref (G.2.1 (16 + b)))]) hx hb dX6_photoTotal_24 hl (k := 2) rfl (nI_1 _) (by decide) rfl (fun ls hl => ?_)
        refine lv_goto (tgt := 4) hx hb dX6_photoTotal_27 (by decide) ?_
        exact ih4 (i + 1) (x1 + (nI (phF (sq i)))) _ _ ls (by omega) (by omega) (by rw [h1, nI_add]; rfl) hH hS (lv_sub hl [2, 1, 0] rfl)
  exact lp4 (n + 1) 0 (0 : Int32) _ _ ls (by omega) (by omega) rfl hH hS (lv_sub hl [2, 1, 0] rfl)

set_option maxRecDepth 100000 in
set_option maxHeartbeats 4000000 in
theorem c_X6_views (l : Launch) (G : Gm) (σ : Sg) (b : Nat) (hb2 : b < 2) (n : Nat) (sq : Nat → S4) (hL : LSt σ b n sq) (r c L : Nat) (h3 : r < 10) (h4 : c < 16) (hL31 : L < 2 ^ 31) (hh : hB (σ 22) (σ 23 0)) : Met l yX6_views wsX6_views (rmO 3 84) (PP G [.ref (G.2.1 (16 + b)), .ref (G.2.1 21), .ref (G.2.1 23), .int (nI r), .int (nI c), .int (nI L)] σ) (QI G (RV (nI (min (covF (σ 22) (cmC σ) sq r c n) L)) σ)) 0 0 (fr G) := by
  refine r_start (cc := cX6_views) (maxL := 11) (ret := (some .int)) (by decide) rfl (Nat.le_of_ble_eq_true rfl) ?_
  intro pz ez sz mz below meth cz ls CF hr hlk hK hH hS hl
  have CF : CallFix pz mz cz cX6_views 11 sz (List.toArray [.ref (G.2.1 (16 + b)), .ref (G.2.1 21), .ref (G.2.1 23), .int (nI r), .int (nI c), .int (nI L)]) wsX6_views RX6 := CF
  have hx := CF.1
  have hb := CF.2.1
  have hown := CF.2.2.2.1
  have hts := CF.2.2.2.2
  have hl : lv_has ls 11 [(0, .ref (G.2.1 (16 + b))), (1, .ref (G.2.1 21)), (2, .ref (G.2.1 23)), (3, .int (nI r)), (4, .int (nI c)), (5, .int (nI L))] := hl
  have K1 := hts _ (List.mem_of_getElem? (i := 1) rfl)
  have K2 := hts _ (List.mem_of_getElem? (i := 2) rfl)
  have K3 := hts _ (List.mem_of_getElem? (i := 3) rfl)
  have JX5 : ∀ w ∈ wsX50, w ∈ wsX6_views := in_r _ [51, 52, 53, 54] (by decide +kernel)
  have JX6 : ∀ w ∈ wsX60, w ∈ wsX6_views := in_r _ [49, 50] (by decide +kernel)
  have hn := hL.1
  have hn8 := hL.2.1
  refine lv_iconst (v := 0) hx hb dX6_views_0 (by decide) ?_
  refine lv_istore (lv' := [(6, .int (0 : Int32)), (0, .ref (G.2.1 (16 + b))), (1, .ref (G.2.1 21)), (2, .ref (G.2.1 23)), (3, .int (nI r)), (4, .int (nI c)), (5, .int (nI L))]) hx hb dX6_views_1 hl (by decide) rfl (fun ls hl => ?_)
  refine lv_iconst (v := 0) hx hb dX6_views_3 (by decide) ?_
  refine lv_istore (lv' := [(7, .int (0 : Int32)), (6, .int (0 : Int32)), (0, .ref (G.2.1 (16 + b))), (1, .ref (G.2.1 21)), (2, .ref (G.2.1 23)), (3, .int (nI r)), (4, .int (nI c)), (5, .int (nI L))]) hx hb dX6_views_4 hl (by decide) rfl (fun ls hl => ?_)
  have lp6 : ∀ (fu : Nat) (i : Nat) (x6 : Int32) (H : Heap) (locs : List Loc) (ls : Array Slot), (n + 1 ≤ i + fu) → (i ≤ n) → (x6 = nI (min (covF (σ 22) (cmC σ) sq r c i) L)) → Hp G σ H → va_S (fr G) sz.heap H locs → lv_has ls 11 [(0, .ref (G.2.1 (16 + b))), (1, .ref (G.2.1 21)), (2, .ref (G.2.1 23)), (3, .int (nI r)), (4, .int (nI c)), (5, .int (nI L)), (6, .int x6), (7, .int (nI i))] → W pz l ez (rmO 3 84) sz mz (List.toArray [.ref (G.2.1 (16 + b)), .ref (G.2.1 21), .ref (G.2.1 23), .int (nI r), .int (nI c), .int (nI L)]) below meth cz H locs 0 0 (MQ below (QI G (RV (nI (min (covF (σ 22) (cmC σ) sq r c n) L)) σ)) (List.toArray [.ref (G.2.1 (16 + b)), .ref (G.2.1 21), .ref (G.2.1 23), .int (nI r), .int (nI c), .int (nI L)]) sz 0 0 (fr G)) (F0 mz 6 ls []) := by
    intro fu
    induction fu with
    | zero => intros; omega
    | succ fu ih6 =>
      intro i x6 H locs ls hf hi h6 hH hS hl
      refine lv_iload hx hb dX6_views_6 (lv_at hl 7 rfl) ?_
      refine lv_aload_n hx hb dX6_views_8 rfl (lv_at hl 0 rfl) ?_
      refine r_get CF hK hH (16 + b) (by omega) (we_l G hb2 _) rfl JX6 0 (by decide) K1 rfl dX6_views_9 ?_
      refine r_top (show (σ (16 + b) 0 : Int32) = nI n from hn) ?_
      refine lv_icmp_ge (tgt := 86) hx hb dX6_views_12 (by decide) (fun c12 => ?_) (fun c12 => ?_)
      · have c12 : n ≤ i := (nI_leI (a := n) (b := i) (by omega) (by omega)).mp c12
        refine lv_iload hx hb dX6_views_86 (lv_at hl 6 rfl) ?_
        exact r_iret CF hr hlk hH hS dX6_views_88 ⟨by rw [h6]; have e : i = n := (by omega); subst e; rfl, rfl⟩
      · have c12 : i < n := Nat.lt_of_not_le (fun zq => c12 ((nI_leI (a := n) (b := i) (by omega) (by omega)).mpr zq))
        have hq := (VSat hL c12).2.2.2.2
        have hph := phF_le hq
        refine lv_aload_n hx hb dX6_views_15 rfl (lv_at hl 0 rfl) ?_
        refine r_get CF hK hH (16 + b) (by omega) (we_l G hb2 _) rfl JX6 1 (by decide) K2 rfl dX6_views_16 ?_
        refine lv_iload hx hb dX6_views_19 (lv_at hl 7 rfl) ?_
        refine r_aald CF hK hH hb2 i rfl (by omega) dX6_views_21 ?_
        refine lv_astore (lv' := [(8, .ref (G.2.1 (8 * b + i))), (0, .ref (G.2.1 (16 + b))), (1, .ref (G.2.1 21)), (2, .ref (G.2.1 23)), (3, .int (nI r)), (4, .int (nI c)), (5, .int (nI L)), (6, .int x6), (7, .int (nI i))]) hx hb dX6_views_22 hl (by decide) rfl (fun ls hl => ?_)
        refine lv_aload hx hb dX6_views_24 (lv_at hl 0 rfl) ?_
        refine r_cR hS (r_runV (n := 0) (As := []) (rest := []) CF hK hH (c_X5_photos l G σ (8 * b + i) (by omega) (sq i) (hL.2.2 i (by omega))) gX6_views_X5_photos rfl rfl rfl rfl (by decide +kernel) ⟨⟨Nat.le_of_ble_eq_true rfl, Nat.le_of_ble_eq_true rfl⟩, Nat.le_of_ble_eq_true rfl, Nat.le_of_ble_eq_true rfl⟩ (8 * b + i) rfl (by omega) (we_s G (by omega) _) rfl rfl hl.1 rfl (Nat.le_of_ble_eq_true rfl) dX6_views_26) (fun H locs hH hS => ?_)
        refine lv_istore (lv' := [(9, .int (nI (phF (sq i)))), (8, .ref (G.2.1 (8 * b + i))), (0, .ref (G.2.1 (16 + b))), (1, .ref (G.2.1 21)), (2, .ref (G.2.1 23)), (3, .int (nI r)), (4, .int (nI c)), (5, .int (nI L)), (6, .int x6), (7, .int (nI i))]) hx hb dX6_views_29 hl (by decide) rfl (fun ls hl => ?_)
        refine lv_iconst (v := 0) hx hb dX6_views_31 (by decide) ?_
        refine lv_istore (lv' := [(10, .int (0 : Int32)), (9, .int (nI (phF (sq i)))), (8, .ref (G.2.1 (8 * b + i))), (0, .ref (G.2.1 (16 + b))), (1, .ref (G.2.1 21)), (2, .ref (G.2.1 23)), (3, .int (nI r)), (4, .int (nI c)), (5, .int (nI L)), (6, .int x6), (7, .int (nI i))]) hx hb dX6_views_32 hl (by decide) rfl (fun ls hl => ?_)
        have lp34 : ∀ (fv : Nat) (p : Nat) (y6 : Int32) (H : Heap) (locs : List Loc) (ls : Array Slot), (phF (sq i) + 1 ≤ p + fv) → (p ≤ phF (sq i)) → (y6 = nI (min (covF (σ 22) (cmC σ) sq r c i + cnt (fun p => psF (σ 22) (cmC σ) (sq i) p r c) p) L)) → Hp G σ H → va_S (fr G) sz.heap H locs → lv_has ls 11 [(0, .ref (G.2.1 (16 + b))), (1, .ref (G.2.1 21)), (2, .ref (G.2.1 23)), (3, .int (nI r)), (4, .int (nI c)), (5, .int (nI L)), (6, .int y6), (7, .int (nI i)), (8, .ref (G.2.1 (8 * b + i))), (9, .int (nI (phF (sq i)))), (10, .int (nI p))] → W pz l ez (rmO 3 84) sz mz (List.toArray [.ref (G.2.1 (16 + b)), .ref (G.2.1 21), .ref (G.2.1 23), .int (nI r), .int (nI c), .int (nI L)]) below meth cz H locs 0 0 (MQ below (QI G (RV (nI (min (covF (σ 22) (cmC σ) sq r c n) L)) σ)) (List.toArray [.ref (G.2.1 (16 + b)), .ref (G.2.1 21), .ref (G.2.1 23), .int (nI r), .int (nI c), .int (nI L)]) sz 0 0 (fr G)) (F0 mz 34 ls []) := by
          intro fv
          induction fv with
          | zero => intros; omega
          | succ fv ih34 =>
            intro p y6 H locs ls hg hp h6p hH hS hl
            refine lv_iload hx hb dX6_views_34 (lv_at hl 10 rfl) ?_
            refine lv_iload hx hb dX6_views_36 (lv_at hl 9 rfl) ?_
            refine lv_icmp_ge (tgt := 80) hx hb dX6_views_38 (by decide) (fun c38 => ?_) (fun c38 => ?_)
            · have c38 : (phF (sq i)) ≤ p := (nI_leI (a := (phF (sq i))) (b := p) (by omega) (by omega)).mp c38
              refine lv_iinc (v := nI (i + 1)) (lv' := [(7, .int (nI (i + 1))), (0, .ref (G.2.1 (16 + b))), (1, .ref (G.2.1 21)), (2, .ref (G.2.1 23)), (3, .int (nI r)), (4, .int (nI c)), (5, .int (nI L)), (6, .int y6), (8, .ref (G.2.1 (8 * b + i))), (9, .int (nI (phF (sq i)))), (10, .int (nI p))]) hx hb dX6_views_80 hl (k := 7) rfl (nI_1 _) (by decide) rfl (fun ls hl => ?_)
              refine lv_goto (tgt := 6) hx hb dX6_views_83 (by decide) ?_
              exact ih6 (i + 1) y6 _ _ ls (by omega) (by omega) (by rw [h6p]; have e : p = phF (sq i) := (by omega); rw [e]; rfl) hH hS (lv_sub hl [1, 2, 3, 4, 5, 6, 7, 0] rfl)
            · have c38 : p < (phF (sq i)) := Nat.lt_of_not_le (fun zq => c38 ((nI_leI (a := (phF (sq i))) (b := p) (by omega) (by omega)).mpr zq))
              have hcol := ph_col hq c38
              refine lv_iload hx hb dX6_views_41 (lv_at hl 6 rfl) ?_
              refine lv_iload hx hb dX6_views_43 (lv_at hl 5 rfl) ?_
              refine lv_icmp_ge (tgt := 80) hx hb dX6_views_45 (by decide) (fun c45 => ?_) (fun c45 => ?_)
              · have c45 : L ≤ min (covF (σ 22) (cmC σ) sq r c i + cnt (fun p => psF (σ 22) (cmC σ) (sq i) p r c) p) L := (nI_leI (a := L) (by omega) (by omega)).mp (by rw [← h6p]; exact c45)
                refine lv_iinc (v := nI (i + 1)) (lv' := [(7, .int (nI (i + 1))), (0, .ref (G.2.1 (16 + b))), (1, .ref (G.2.1 21)), (2, .ref (G.2.1 23)), (3, .int (nI r)), (4, .int (nI c)), (5, .int (nI L)), (6, .int y6), (8, .ref (G.2.1 (8 * b + i))), (9, .int (nI (phF (sq i)))), (10, .int (nI p))]) hx hb dX6_views_80 hl (k := 7) rfl (nI_1 _) (by decide) rfl (fun ls hl => ?_)
                refine lv_goto (tgt := 6) hx hb dX6_views_83 (by decide) ?_
                exact ih6 (i + 1) y6 _ _ ls (by omega) (by omega) (by rw [h6p]; congr 1; have := cnt_mono (fun p => psF (σ 22) (cmC σ) (sq i) p r c) hp; simp only [covF]; omega) hH hS (lv_sub hl [1, 2, 3, 4, 5, 6, 7, 0] rfl)
              · refine lv_aload_n hx hb dX6_views_48 rfl (lv_at hl 2 rfl) ?_
                refine lv_aload_n hx hb dX6_views_49 rfl (lv_at hl 1 rfl) ?_
                refine lv_aload hx hb dX6_views_50 (lv_at hl 8 rfl) ?_
                refine r_get CF hK hH (8 * b + i) (by omega) (we_s G (by omega) _) rfl JX5 0 (by decide) K3 rfl dX6_views_52 ?_
                refine r_top (show (σ (8 * b + i) 0 : Int32) = nI (sq i).1 from (VSat hL c12).1) ?_
                refine lv_aload hx hb dX6_views_55 (lv_at hl 8 rfl) ?_
                refine lv_iload hx hb dX6_views_57 (lv_at hl 10 rfl) ?_
                refine r_cR hS (r_runV (n := 1) (As := [.int (nI p)]) (rest := [.int (nI (sq i).1), .ref (G.2.1 21), .ref (G.2.1 23)]) CF hK hH (c_X5_columnOf l G σ (8 * b + i) (by omega) (sq i) (hL.2.2 i (by omega)) p) gX6_views_X5_columnOf rfl rfl rfl rfl (by decide +kernel) ⟨⟨Nat.le_of_ble_eq_true rfl, Nat.le_of_ble_eq_true rfl⟩, Nat.le_of_ble_eq_true rfl, Nat.le_of_ble_eq_true rfl⟩ (8 * b + i) rfl (by omega) (we_s G (by omega) _) rfl rfl hl.1 rfl (Nat.le_of_ble_eq_true rfl) dX6_views_59) (fun H locs hH hS => ?_)
                refine lv_iload_n hx hb dX6_views_62 rfl (lv_at hl 3 rfl) ?_
                refine lv_iload hx hb dX6_views_63 (lv_at hl 4 rfl) ?_
                refine r_cR hS (r_runV (n := 5) (As := [.ref (G.2.1 21), .int (nI (sq i).1), .int (nI ((sq i).2.1 + p * (sq i).2.2.2)), .int (nI r), .int (nI c)]) (rest := []) CF hK hH (c_X1_sees l G σ (sq i).1 ((sq i).2.1 + p * (sq i).2.2.2) r c hq.1 (by have := hq.2.2.1; omega) h3 h4 hh) gX6_views_X1_sees rfl rfl rfl rfl (by decide +kernel) ⟨⟨Nat.le_of_ble_eq_true rfl, Nat.le_of_ble_eq_true rfl⟩, Nat.le_of_ble_eq_true rfl, Nat.le_of_ble_eq_true rfl⟩ 23 rfl (Nat.le_of_ble_eq_true rfl) rfl rfl rfl hl.1 rfl (Nat.le_of_ble_eq_true rfl) dX6_views_65) (fun H locs hH hS => ?_)
                refine r_ifeqB (tgt := 74) hx hb dX6_views_68 (by decide) (fun c68 => ?_) (fun c68 => ?_)
                · refine lv_iinc (v := nI (p + 1)) (lv' := [(10, .int (nI (p + 1))), (0, .ref (G.2.1 (16 + b))), (1, .ref (G.2.1 21)), (2, .ref (G.2.1 23)), (3, .int (nI r)), (4, .int (nI c)), (5, .int (nI L)), (6, .int y6), (7, .int (nI i)), (8, .ref (G.2.1 (8 * b + i))), (9, .int (nI (phF (sq i))))]) hx hb dX6_views_74 hl (k := 10) rfl (nI_1 _) (by decide) rfl (fun ls hl => ?_)
                  refine lv_goto (tgt := 34) hx hb dX6_views_77 (by decide) ?_
                  exact ih34 (p + 1) y6 _ _ ls (by omega) (by omega) (by rw [cnt_f (p := fun p => psF (σ 22) (cmC σ) (sq i) p r c) c68]; exact h6p) hH hS (lv_sub hl [1, 2, 3, 4, 5, 6, 7, 8, 9, 10, 0] rfl)
                · refine lv_iinc (v := (y6 + (1))) (lv' := [(6, .int (y6 + (1))), (0, .ref (G.2.1 (16 + b))), (1, .ref (G.2.1 21)), (2, .ref (G.2.1 23)), (3, .int (nI r)), (4, .int (nI c)), (5, .int (nI L)), (7, .int (nI i)), (8, .ref (G.2.1 (8 * b + i))), (9, .int (nI (phF (sq i)))), (10, .int (nI p))]) hx hb dX6_views_71 hl (k := 6) rfl rfl (by decide) rfl (fun ls hl => ?_)
                  refine lv_iinc (v := nI (p + 1)) (lv' := [(10, .int (nI (p + 1))), (6, .int (y6 + (1))), (0, .ref (G.2.1 (16 + b))), (1, .ref (G.2.1 21)), (2, .ref (G.2.1 23)), (3, .int (nI r)), (4, .int (nI c)), (5, .int (nI L)), (7, .int (nI i)), (8, .ref (G.2.1 (8 * b + i))), (9, .int (nI (phF (sq i))))]) hx hb dX6_views_74 hl (k := 10) rfl (nI_1 _) (by decide) rfl (fun ls hl => ?_)
                  refine lv_goto (tgt := 34) hx hb dX6_views_77 (by decide) ?_
                  exact ih34 (p + 1) (y6 + (1)) _ _ ls (by omega) (by omega) (by rw [cnt_t (p := fun p => psF (σ 22) (cmC σ) (sq i) p r c) c68, h6p]; have hlt : min (covF (σ 22) (cmC σ) sq r c i + cnt (fun p => psF (σ 22) (cmC σ) (sq i) p r c) p) L < L := Nat.lt_of_not_le (fun zq => c45 (by rw [h6p]; exact nI_le zq (by omega))); exact (nI_1 _).trans (by congr 1; omega)) hH hS (lv_sub hl [2, 3, 4, 5, 6, 7, 1, 8, 9, 10, 0] rfl)
        exact lp34 (phF (sq i) + 1) 0 x6 _ _ ls (by omega) (by omega) h6 hH hS (lv_sub hl [3, 4, 5, 6, 7, 8, 9, 10, 2, 1, 0] rfl)
  exact lp6 (n + 1) 0 (0 : Int32) _ _ ls (by omega) (by omega) (by simp [covF]; rfl) hH hS (lv_sub hl [2, 3, 4, 5, 6, 7, 1, 0] rfl)
