def totF (sq : Nat → S4) : Nat → Nat
  | 0 => 0
  | i + 1 => totF sq i + phF (sq i)
theorem VSat {σ : Sg} {b n : Nat} {sq : Nat → S4} (hL : LSt σ b n sq) {i : Nat} (h : i < n) : VS σ (8 * b + i) (sq i) := hL.2.2 i h

set_option maxRecDepth 100000 in
set_option maxHeartbeats 4000000 in
theorem c_X6_photoTotal (l : Launch) (G : Gm) (σ : Sg) (b : Nat) (hb2 : b < 2) (n : Nat) (sq : Nat → S4) (hL : LSt σ b n sq) : Met l yX6_photoTotal wsX6_photoTotal (rmO 2 42) (PP G [.ref (G.2.1 (16 + b))] σ) (QI G (RV (nI (totF sq n)) σ)) 0 0 (fr G) := by
  refine r_start (cc := cX6_photoTotal) (maxL := 4) (ret := (some .int)) (by decide) rfl (Nat.le_of_ble_eq_true rfl) ?_
  intro pz ez sz mz below meth cz ls CF hr hlk hK hH hS hl
  have CF : CallFix pz mz cz cX6_photoTotal 4 sz (List.toArray [.ref (G.2.1 (16 + b))]) wsX6_photoTotal RX6 := CF
  have hx := CF.1
  have hb := CF.2.1
  have hown := CF.2.2.2.1
  have hts := CF.2.2.2.2
  have hl : lv_has ls 4 [(0, .ref (G.2.1 (16 + b)))] := hl
  have K1 := hts _ (List.mem_of_getElem? (i := 1) rfl)
  have JX6 : ∀ w ∈ wsX60, w ∈ wsX6_photoTotal := in_r _ [23, 24] (by decide +kernel)
  have hn := hL.1
  have hn8 := hL.2.1
  refine lv_iconst (v := 0) hx hb dX6_photoTotal_0 (by decide) ?_
  refine lv_istore_n (lv' := [(1, .int (0 : Int32)), (0, .ref (G.2.1 (16 + b)))]) hx hb dX6_photoTotal_1 rfl hl (by decide) rfl (fun ls hl => ?_)
  refine lv_iconst (v := 0) hx hb dX6_photoTotal_2 (by decide) ?_
  refine lv_istore_n (lv' := [(2, .int (0 : Int32)), (1, .int (0 : Int32)), (0, .ref (G.2.1 (16 + b)))]) hx hb dX6_photoTotal_3 rfl hl (by decide) rfl (fun ls hl => ?_)
  have lp4 : ∀ (fu : Nat) (i : Nat) (x1 : Int32) (H : Heap) (locs : List Loc) (ls : Array Slot), (n + 1 ≤ i + fu) → (i ≤ n) → (x1 = nI (totF sq i)) → Hp G σ H → va_S (fr G) sz.heap H locs → lv_has ls 4 [(0, .ref (G.2.1 (16 + b))), (1, .int x1), (2, .int (nI i))] → W pz l ez (rmO 2 42) sz mz (List.toArray [.ref (G.2.1 (16 + b))]) below meth cz H locs 0 0 (MQ below (QI G (RV (nI (totF sq n)) σ)) (List.toArray [.ref (G.2.1 (16 + b))]) sz 0 0 (fr G)) (F0 mz 4 ls []) := by
    intro fu
    induction fu with
    | zero => intros; omega
    | succ fu ih4 =>
      intro i x1 H locs ls hf hi h1 hH hS hl
      refine lv_iload_n hx hb dX6_photoTotal_4 rfl (lv_at hl 2 rfl) ?_
      refine lv_aload_n hx hb dX6_photoTotal_5 rfl (lv_at hl 0 rfl) ?_
      refine r_get CF hK hH (16 + b) (by omega) (we_l G hb2 _) rfl JX6 0 (by decide) K1 rfl dX6_photoTotal_6 ?_
      refine r_top (show (σ (16 + b) 0 : Int32) = nI n from hn) ?_
      refine lv_icmp_ge (tgt := 39) hx hb dX6_photoTotal_9 (by decide) (fun c9 => ?_) (fun c9 => ?_)
      · have c9 : n ≤ i := (nI_leI (a := n) (b := i) (by omega) (by omega)).mp c9
        refine lv_iload_n hx hb dX6_photoTotal_39 rfl (lv_at hl 1 rfl) ?_
        exact r_iret CF hr hlk hH hS dX6_photoTotal_40 ⟨by rw [h1]; have e : i = n := (by omega); subst e; rfl, rfl⟩
      · have c9 : i < n := Nat.lt_of_not_le (fun zq => c9 ((nI_leI (a := n) (b := i) (by omega) (by omega)).mpr zq))
        refine lv_aload_n hx hb dX6_photoTotal_12 rfl (lv_at hl 0 rfl) ?_
        refine lv_iload_n hx hb dX6_photoTotal_13 rfl (lv_at hl 2 rfl) ?_
        refine r_callq hS (r_runV (n := 1) (As := [.int (nI i)]) (rest := []) CF hK hH (c_X6_find l G σ b hb2 n hn hn8 (nI i)) gX6_photoTotal_X6_find rfl rfl rfl rfl (by decide +kernel) ⟨⟨Nat.le_of_ble_eq_true rfl, Nat.le_of_ble_eq_true rfl⟩, Nat.le_of_ble_eq_true rfl, Nat.le_of_ble_eq_true rfl⟩ (16 + b) rfl (by omega) (we_l G hb2 _) rfl rfl hl.1 rfl (Nat.le_of_ble_eq_true rfl) dX6_photoTotal_14) (fun rq14 σq14 H locs hq hH hS => ?_)
        obtain ⟨hσ1, hq⟩ := hq
        rw [hσ1] at hH
        rcases hq with ⟨hn14, hr1⟩ | ⟨j14, hj14, hi14, hr1⟩
        · rw [hr1]
          rw [show va_rf none = Value.null from rfl]
          have hin14 := inB_f hn14
          exact absurd hn14 (no_find (by omega) (by omega))
        · rw [hr1]
          rw [show va_rf (some (G.2.1 (8 * b + j14))) = Value.ref (G.2.1 (8 * b + j14)) from rfl]
          have hin14 := inB_t hj14 hi14 (by omega)
          have hN14 := N_of hi14 (by omega)
          have ej14 : i = j14 := (nI_eq (by omega) (by omega)).mp hi14
          subst ej14
          refine lv_astore_n (lv' := [(3, .ref (G.2.1 (8 * b + i))), (0, .ref (G.2.1 (16 + b))), (1, .int x1), (2, .int (nI i))]) hx hb dX6_photoTotal_17 rfl hl (by decide) rfl (fun ls hl => ?_)
          refine lv_iload_n hx hb dX6_photoTotal_18 rfl (lv_at hl 2 rfl) ?_
          refine lv_aload_n hx hb dX6_photoTotal_19 rfl (lv_at hl 0 rfl) ?_
          refine lv_ifnull hx hb dX6_photoTotal_20 ?_
          refine lv_aload_n hx hb dX6_photoTotal_23 rfl (lv_at hl 0 rfl) ?_
          refine r_cR hS (r_runV (n := 0) (As := []) (rest := [.int x1]) CF hK hH (c_X5_photos l G σ (8 * b + i) (by omega) (sq i) (hL.2.2 i (by omega))) gX6_photoTotal_X5_photos rfl rfl rfl rfl (by decide +kernel) ⟨⟨Nat.le_of_ble_eq_true rfl, Nat.le_of_ble_eq_true rfl⟩, Nat.le_of_ble_eq_true rfl, Nat.le_of_ble_eq_true rfl⟩ (8 * b + i) rfl (by omega) (we_s G (by omega) _) rfl rfl hl.1 rfl (Nat.le_of_ble_eq_true rfl) dX6_photoTotal_24) (fun H locs hH hS => ?_)
          refine lv_goto (tgt := 31) hx hb dX6_photoTotal_27 (by decide) ?_
          refine lv_iadd hx hb dX6_photoTotal_31 ?_
          refine lv_istore_n (lv' := [(1, .int (x1 + (nI (phF (sq i))))), (3, .ref (G.2.1 (8 * b + i))), (0, .ref (G.2.1 (16 + b))), (2, .int (nI i))]) hx hb dX6_photoTotal_32 rfl hl (by decide) rfl (fun ls hl => ?_)
          refine lv_iinc (v := nI (i + 1)) (lv' := [(2, .int (nI (i + 1))), (1, .int (x1 + (nI (phF (sq i))))), (3, .ref (G.2.1 (8 * b + i))), (0, .ref (G.2.1 (16 + b)))]) hx hb dX6_photoTotal_33 hl (k := 3) rfl (nI_1 _) (by decide) rfl (fun ls hl => ?_)
          refine lv_goto (tgt := 4) hx hb dX6_photoTotal_36 (by decide) ?_
          exact ih4 (i + 1) (x1 + (nI (phF (sq i)))) _ _ ls (by omega) (by omega) (by rw [h1, nI_add]; rfl) hH hS (lv_sub hl [3, 1, 0] rfl)
  exact lp4 (n + 1) 0 (0 : Int32) _ _ ls (by omega) (by omega) rfl hH hS (lv_sub hl [2, 1, 0] rfl)

set_option maxRecDepth 100000 in
set_option maxHeartbeats 4000000 in
theorem c_X6_views (l : Launch) (G : Gm) (σ : Sg) (b : Nat) (hb2 : b < 2) (n : Nat) (sq : Nat → S4) (hL : LSt σ b n sq) (r c L : Nat) (h3 : r < 10) (h4 : c < 16) (hL31 : L < 2 ^ 31) (hh : hB (σ 22) (σ 23 0)) : Met l yX6_views wsX6_views (rmO 3 84) (PP G [.ref (G.2.1 (16 + b)), .ref (G.2.1 21), .ref (G.2.1 23), .int (nI r), .int (nI c), .int (nI L)] σ) (QI G (RV (nI (min (covF (σ 22) (cmC σ) sq r c n) L)) σ)) 0 0 (fr G) := by
  refine r_start (cc := cX6_views) (maxL := 11) (ret := (some .int)) (by decide) rfl (Nat.le_of_ble_eq_true rfl) ?_
  intro pz ez sz mz below meth cz ls CF hr hlk hK hH hS hl
  have CF : CallFix pz mz cz cX6_views 11 sz (List.toArray [.ref (G.2.1 (16 + b)), .ref (G.2.1 21), .ref (G.2.1 23), .int (nI r), .int (nI c), .int (nI L)]) wsX6_views RX6 := CF
  have hx := CF.1
  have hb := CF.2.1
  have hown := CF.2.2.2.1
  have hts := CF.2.2.2.2
  have hl : lv_has ls 11 [(0, .ref (G.2.1 (16 + b))), (1, .ref (G.2.1 21)), (2, .ref (G.2.1 23)), (3, .int (nI r)), (4, .int (nI c)), (5, .int (nI L))] := hl
  have K1 := hts _ (List.mem_of_getElem? (i := 1) rfl)
  have K2 := hts _ (List.mem_of_getElem? (i := 2) rfl)
  have JX5 : ∀ w ∈ wsX50, w ∈ wsX6_views := in_r _ [60, 61, 62, 63] (by decide +kernel)
  have JX6 : ∀ w ∈ wsX60, w ∈ wsX6_views := in_r _ [58, 59] (by decide +kernel)
  have hn := hL.1
  have hn8 := hL.2.1
  refine lv_iconst (v := 0) hx hb dX6_views_0 (by decide) ?_
  refine lv_istore (lv' := [(6, .int (0 : Int32)), (0, .ref (G.2.1 (16 + b))), (1, .ref (G.2.1 21)), (2, .ref (G.2.1 23)), (3, .int (nI r)), (4, .int (nI c)), (5, .int (nI L))]) hx hb dX6_views_1 hl (by decide) rfl (fun ls hl => ?_)
  refine lv_iconst (v := 0) hx hb dX6_views_3 (by decide) ?_
  refine lv_istore (lv' := [(7, .int (0 : Int32)), (6, .int (0 : Int32)), (0, .ref (G.2.1 (16 + b))), (1, .ref (G.2.1 21)), (2, .ref (G.2.1 23)), (3, .int (nI r)), (4, .int (nI c)), (5, .int (nI L))]) hx hb dX6_views_4 hl (by decide) rfl (fun ls hl => ?_)
  have lp6 : ∀ (fu : Nat) (i : Nat) (x6 : Int32) (H : Heap) (locs : List Loc) (ls : Array Slot), (n + 1 ≤ i + fu) → (i ≤ n) → (x6 = nI (min (covF (σ 22) (cmC σ) sq r c i) L)) → Hp G σ H → va_S (fr G) sz.heap H locs → lv_has ls 11 [(0, .ref (G.2.1 (16 + b))), (1, .ref (G.2.1 21)), (2, .ref (G.2.1 23)), (3, .int (nI r)), (4, .int (nI c)), (5, .int (nI L)), (6, .int x6), (7, .int (nI i))] → W pz l ez (rmO 3 84) sz mz (List.toArray [.ref (G.2.1 (16 + b)), .ref (G.2.1 21), .ref (G.2.1 23), .int (nI r), .int (nI c), .int (nI L)]) below meth cz H locs 0 0 (MQ below (QI G (RV (nI (min (covF (σ 22) (cmC σ) sq r c n) L)) σ)) (List.toArray [.ref (G.2.1 (16 + b)), .ref (G.2.1 21), .ref (G.2.1 23), .int (nI r), .int (nI c), .int (nI L)]) sz 0 0 (fr G)) (F0 mz 6 ls []) := by
    intro fu
    induction fu with
    | zero => intros; omega
    | succ fu ih6 =>
      intro i x6 H locs ls hf hi h6 hH hS hl
      refine lv_iload hx hb dX6_views_6 (lv_at hl 7 rfl) ?_
      refine lv_aload_n hx hb dX6_views_8 rfl (lv_at hl 0 rfl) ?_
      refine r_get CF hK hH (16 + b) (by omega) (we_l G hb2 _) rfl JX6 0 (by decide) K1 rfl dX6_views_9 ?_
      refine r_top (show (σ (16 + b) 0 : Int32) = nI n from hn) ?_
      refine lv_icmp_ge (tgt := 93) hx hb dX6_views_12 (by decide) (fun c12 => ?_) (fun c12 => ?_)
      · have c12 : n ≤ i := (nI_leI (a := n) (b := i) (by omega) (by omega)).mp c12
        refine lv_iload hx hb dX6_views_93 (lv_at hl 6 rfl) ?_
        exact r_iret CF hr hlk hH hS dX6_views_95 ⟨by rw [h6]; have e : i = n := (by omega); subst e; rfl, rfl⟩
      · have c12 : i < n := Nat.lt_of_not_le (fun zq => c12 ((nI_leI (a := n) (b := i) (by omega) (by omega)).mpr zq))
        have hq := (VSat hL c12).2.2.2.2
        have hph := phF_le hq
        refine lv_aload_n hx hb dX6_views_15 rfl (lv_at hl 0 rfl) ?_
        refine lv_iload hx hb dX6_views_16 (lv_at hl 7 rfl) ?_
        refine r_callq hS (r_runV (n := 1) (As := [.int (nI i)]) (rest := []) CF hK hH (c_X6_find l G σ b hb2 n hn hn8 (nI i)) gX6_views_X6_find rfl rfl rfl rfl (by decide +kernel) ⟨⟨Nat.le_of_ble_eq_true rfl, Nat.le_of_ble_eq_true rfl⟩, Nat.le_of_ble_eq_true rfl, Nat.le_of_ble_eq_true rfl⟩ (16 + b) rfl (by omega) (we_l G hb2 _) rfl rfl hl.1 rfl (Nat.le_of_ble_eq_true rfl) dX6_views_18) (fun rq18 σq18 H locs hq hH hS => ?_)
        obtain ⟨hσ1, hq⟩ := hq
        rw [hσ1] at hH
        rcases hq with ⟨hn18, hr1⟩ | ⟨j18, hj18, hi18, hr1⟩
        · rw [hr1]
          rw [show va_rf none = Value.null from rfl]
          have hin18 := inB_f hn18
          exact absurd hn18 (no_find (by omega) (by omega))
        · rw [hr1]
          rw [show va_rf (some (G.2.1 (8 * b + j18))) = Value.ref (G.2.1 (8 * b + j18)) from rfl]
          have hin18 := inB_t hj18 hi18 (by omega)
          have hN18 := N_of hi18 (by omega)
          have ej18 : i = j18 := (nI_eq (by omega) (by omega)).mp hi18
          subst ej18
          refine lv_astore (lv' := [(8, .ref (G.2.1 (8 * b + i))), (0, .ref (G.2.1 (16 + b))), (1, .ref (G.2.1 21)), (2, .ref (G.2.1 23)), (3, .int (nI r)), (4, .int (nI c)), (5, .int (nI L)), (6, .int x6), (7, .int (nI i))]) hx hb dX6_views_21 hl (by decide) rfl (fun ls hl => ?_)
          refine lv_aload hx hb dX6_views_23 (lv_at hl 0 rfl) ?_
          refine lv_ifnonnull (tgt := 31) hx hb dX6_views_25 (by decide) ?_
          refine lv_aload hx hb dX6_views_31 (lv_at hl 0 rfl) ?_
          refine r_cR hS (r_runV (n := 0) (As := []) (rest := []) CF hK hH (c_X5_photos l G σ (8 * b + i) (by omega) (sq i) (hL.2.2 i (by omega))) gX6_views_X5_photos rfl rfl rfl rfl (by decide +kernel) ⟨⟨Nat.le_of_ble_eq_true rfl, Nat.le_of_ble_eq_true rfl⟩, Nat.le_of_ble_eq_true rfl, Nat.le_of_ble_eq_true rfl⟩ (8 * b + i) rfl (by omega) (we_s G (by omega) _) rfl rfl hl.1 rfl (Nat.le_of_ble_eq_true rfl) dX6_views_33) (fun H locs hH hS => ?_)
          refine lv_istore (lv' := [(9, .int (nI (phF (sq i)))), (8, .ref (G.2.1 (8 * b + i))), (0, .ref (G.2.1 (16 + b))), (1, .ref (G.2.1 21)), (2, .ref (G.2.1 23)), (3, .int (nI r)), (4, .int (nI c)), (5, .int (nI L)), (6, .int x6), (7, .int (nI i))]) hx hb dX6_views_36 hl (by decide) rfl (fun ls hl => ?_)
          refine lv_iconst (v := 0) hx hb dX6_views_38 (by decide) ?_
          refine lv_istore (lv' := [(10, .int (0 : Int32)), (9, .int (nI (phF (sq i)))), (8, .ref (G.2.1 (8 * b + i))), (0, .ref (G.2.1 (16 + b))), (1, .ref (G.2.1 21)), (2, .ref (G.2.1 23)), (3, .int (nI r)), (4, .int (nI c)), (5, .int (nI L)), (6, .int x6), (7, .int (nI i))]) hx hb dX6_views_39 hl (by decide) rfl (fun ls hl => ?_)
          have lp41 : ∀ (fv : Nat) (p : Nat) (y6 : Int32) (H : Heap) (locs : List Loc) (ls : Array Slot), (phF (sq i) + 1 ≤ p + fv) → (p ≤ phF (sq i)) → (y6 = nI (min (covF (σ 22) (cmC σ) sq r c i + cnt (fun p => psF (σ 22) (cmC σ) (sq i) p r c) p) L)) → Hp G σ H → va_S (fr G) sz.heap H locs → lv_has ls 11 [(0, .ref (G.2.1 (16 + b))), (1, .ref (G.2.1 21)), (2, .ref (G.2.1 23)), (3, .int (nI r)), (4, .int (nI c)), (5, .int (nI L)), (6, .int y6), (7, .int (nI i)), (8, .ref (G.2.1 (8 * b + i))), (9, .int (nI (phF (sq i)))), (10, .int (nI p))] → W pz l ez (rmO 3 84) sz mz (List.toArray [.ref (G.2.1 (16 + b)), .ref (G.2.1 21), .ref (G.2.1 23), .int (nI r), .int (nI c), .int (nI L)]) below meth cz H locs 0 0 (MQ below (QI G (RV (nI (min (covF (σ 22) (cmC σ) sq r c n) L)) σ)) (List.toArray [.ref (G.2.1 (16 + b)), .ref (G.2.1 21), .ref (G.2.1 23), .int (nI r), .int (nI c), .int (nI L)]) sz 0 0 (fr G)) (F0 mz 41 ls []) := by
            intro fv
            induction fv with
            | zero => intros; omega
            | succ fv ih41 =>
              intro p y6 H locs ls hg hp h6p hH hS hl
              refine lv_iload hx hb dX6_views_41 (lv_at hl 10 rfl) ?_
              refine lv_iload hx hb dX6_views_43 (lv_at hl 9 rfl) ?_
              refine lv_icmp_ge (tgt := 87) hx hb dX6_views_45 (by decide) (fun c45 => ?_) (fun c45 => ?_)
              · have c45 : (phF (sq i)) ≤ p := (nI_leI (a := (phF (sq i))) (b := p) (by omega) (by omega)).mp c45
                refine lv_iinc (v := nI (i + 1)) (lv' := [(7, .int (nI (i + 1))), (0, .ref (G.2.1 (16 + b))), (1, .ref (G.2.1 21)), (2, .ref (G.2.1 23)), (3, .int (nI r)), (4, .int (nI c)), (5, .int (nI L)), (6, .int y6), (8, .ref (G.2.1 (8 * b + i))), (9, .int (nI (phF (sq i)))), (10, .int (nI p))]) hx hb dX6_views_87 hl (k := 7) rfl (nI_1 _) (by decide) rfl (fun ls hl => ?_)
                refine lv_goto (tgt := 6) hx hb dX6_views_90 (by decide) ?_
                exact ih6 (i + 1) y6 _ _ ls (by omega) (by omega) (by rw [h6p]; have e : p = phF (sq i) := (by omega); rw [e]; rfl) hH hS (lv_sub hl [1, 2, 3, 4, 5, 6, 7, 0] rfl)
              · have c45 : p < (phF (sq i)) := Nat.lt_of_not_le (fun zq => c45 ((nI_leI (a := (phF (sq i))) (b := p) (by omega) (by omega)).mpr zq))
                have hcol := ph_col hq c45
                refine lv_iload hx hb dX6_views_48 (lv_at hl 6 rfl) ?_
                refine lv_iload hx hb dX6_views_50 (lv_at hl 5 rfl) ?_
                refine lv_icmp_ge (tgt := 87) hx hb dX6_views_52 (by decide) (fun c52 => ?_) (fun c52 => ?_)
                · have c52 : L ≤ min (covF (σ 22) (cmC σ) sq r c i + cnt (fun p => psF (σ 22) (cmC σ) (sq i) p r c) p) L := (nI_leI (a := L) (by omega) (by omega)).mp (by rw [← h6p]; exact c52)
                  refine lv_iinc (v := nI (i + 1)) (lv' := [(7, .int (nI (i + 1))), (0, .ref (G.2.1 (16 + b))), (1, .ref (G.2.1 21)), (2, .ref (G.2.1 23)), (3, .int (nI r)), (4, .int (nI c)), (5, .int (nI L)), (6, .int y6), (8, .ref (G.2.1 (8 * b + i))), (9, .int (nI (phF (sq i)))), (10, .int (nI p))]) hx hb dX6_views_87 hl (k := 7) rfl (nI_1 _) (by decide) rfl (fun ls hl => ?_)
                  refine lv_goto (tgt := 6) hx hb dX6_views_90 (by decide) ?_
                  exact ih6 (i + 1) y6 _ _ ls (by omega) (by omega) (by rw [h6p]; congr 1; have := cnt_mono (fun p => psF (σ 22) (cmC σ) (sq i) p r c) hp; simp only [covF]; omega) hH hS (lv_sub hl [1, 2, 3, 4, 5, 6, 7, 0] rfl)
                · refine lv_aload_n hx hb dX6_views_55 rfl (lv_at hl 2 rfl) ?_
                  refine lv_aload_n hx hb dX6_views_56 rfl (lv_at hl 1 rfl) ?_
                  refine lv_aload hx hb dX6_views_57 (lv_at hl 8 rfl) ?_
                  refine r_get CF hK hH (8 * b + i) (by omega) (we_s G (by omega) _) rfl JX5 0 (by decide) K2 rfl dX6_views_59 ?_
                  refine r_top (show (σ (8 * b + i) 0 : Int32) = nI (sq i).1 from (VSat hL c12).1) ?_
                  refine lv_aload hx hb dX6_views_62 (lv_at hl 8 rfl) ?_
                  refine lv_iload hx hb dX6_views_64 (lv_at hl 10 rfl) ?_
                  refine r_cR hS (r_runV (n := 1) (As := [.int (nI p)]) (rest := [.int (nI (sq i).1), .ref (G.2.1 21), .ref (G.2.1 23)]) CF hK hH (c_X5_columnOf l G σ (8 * b + i) (by omega) (sq i) (hL.2.2 i (by omega)) p) gX6_views_X5_columnOf rfl rfl rfl rfl (by decide +kernel) ⟨⟨Nat.le_of_ble_eq_true rfl, Nat.le_of_ble_eq_true rfl⟩, Nat.le_of_ble_eq_true rfl, Nat.le_of_ble_eq_true rfl⟩ (8 * b + i) rfl (by omega) (we_s G (by omega) _) rfl rfl hl.1 rfl (Nat.le_of_ble_eq_true rfl) dX6_views_66) (fun H locs hH hS => ?_)
                  refine lv_iload_n hx hb dX6_views_69 rfl (lv_at hl 3 rfl) ?_
                  refine lv_iload hx hb dX6_views_70 (lv_at hl 4 rfl) ?_
                  refine r_cR hS (r_runV (n := 5) (As := [.ref (G.2.1 21), .int (nI (sq i).1), .int (nI ((sq i).2.1 + p * (sq i).2.2.2)), .int (nI r), .int (nI c)]) (rest := []) CF hK hH (c_X1_sees l G σ (sq i).1 ((sq i).2.1 + p * (sq i).2.2.2) r c hq.1 (by have := hq.2.2.1; omega) h3 h4 hh) gX6_views_X1_sees rfl rfl rfl rfl (by decide +kernel) ⟨⟨Nat.le_of_ble_eq_true rfl, Nat.le_of_ble_eq_true rfl⟩, Nat.le_of_ble_eq_true rfl, Nat.le_of_ble_eq_true rfl⟩ 23 rfl (Nat.le_of_ble_eq_true rfl) rfl rfl rfl hl.1 rfl (Nat.le_of_ble_eq_true rfl) dX6_views_72) (fun H locs hH hS => ?_)
                  refine r_ifeqB (tgt := 81) hx hb dX6_views_75 (by decide) (fun c75 => ?_) (fun c75 => ?_)
                  · refine lv_iinc (v := nI (p + 1)) (lv' := [(10, .int (nI (p + 1))), (0, .ref (G.2.1 (16 + b))), (1, .ref (G.2.1 21)), (2, .ref (G.2.1 23)), (3, .int (nI r)), (4, .int (nI c)), (5, .int (nI L)), (6, .int y6), (7, .int (nI i)), (8, .ref (G.2.1 (8 * b + i))), (9, .int (nI (phF (sq i))))]) hx hb dX6_views_81 hl (k := 10) rfl (nI_1 _) (by decide) rfl (fun ls hl => ?_)
                    refine lv_goto (tgt := 41) hx hb dX6_views_84 (by decide) ?_
                    exact ih41 (p + 1) y6 _ _ ls (by omega) (by omega) (by rw [cnt_f (p := fun p => psF (σ 22) (cmC σ) (sq i) p r c) c75]; exact h6p) hH hS (lv_sub hl [1, 2, 3, 4, 5, 6, 7, 8, 9, 10, 0] rfl)
                  · refine lv_iinc (v := (y6 + (1))) (lv' := [(6, .int (y6 + (1))), (0, .ref (G.2.1 (16 + b))), (1, .ref (G.2.1 21)), (2, .ref (G.2.1 23)), (3, .int (nI r)), (4, .int (nI c)), (5, .int (nI L)), (7, .int (nI i)), (8, .ref (G.2.1 (8 * b + i))), (9, .int (nI (phF (sq i)))), (10, .int (nI p))]) hx hb dX6_views_78 hl (k := 6) rfl rfl (by decide) rfl (fun ls hl => ?_)
                    refine lv_iinc (v := nI (p + 1)) (lv' := [(10, .int (nI (p + 1))), (6, .int (y6 + (1))), (0, .ref (G.2.1 (16 + b))), (1, .ref (G.2.1 21)), (2, .ref (G.2.1 23)), (3, .int (nI r)), (4, .int (nI c)), (5, .int (nI L)), (7, .int (nI i)), (8, .ref (G.2.1 (8 * b + i))), (9, .int (nI (phF (sq i))))]) hx hb dX6_views_81 hl (k := 10) rfl (nI_1 _) (by decide) rfl (fun ls hl => ?_)
                    refine lv_goto (tgt := 41) hx hb dX6_views_84 (by decide) ?_
                    exact ih41 (p + 1) (y6 + (1)) _ _ ls (by omega) (by omega) (by rw [cnt_t (p := fun p => psF (σ 22) (cmC σ) (sq i) p r c) c75, h6p]; have hlt : min (covF (σ 22) (cmC σ) sq r c i + cnt (fun p => psF (σ 22) (cmC σ) (sq i) p r c) p) L < L := Nat.lt_of_not_le (fun zq => c52 (by rw [h6p]; exact nI_le zq (by omega))); exact (nI_1 _).trans (by congr 1; omega)) hH hS (lv_sub hl [2, 3, 4, 5, 6, 7, 1, 8, 9, 10, 0] rfl)
          exact lp41 (phF (sq i) + 1) 0 x6 _ _ ls (by omega) (by omega) h6 hH hS (lv_sub hl [3, 4, 5, 6, 7, 8, 9, 10, 2, 1, 0] rfl)
  exact lp6 (n + 1) 0 (0 : Int32) _ _ ls (by omega) (by omega) (by simp [covF]; rfl) hH hS (lv_sub hl [2, 3, 4, 5, 6, 7, 1, 0] rfl)
