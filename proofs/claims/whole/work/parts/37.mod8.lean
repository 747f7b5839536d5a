theorem has_pos : ∀ m, m < 256 → ¬ m = 0 → 0 < cnt (has m) 8 := by decide +kernel
theorem has_0 (i : Nat) : has 0 i = false := by unfold has; simp
theorem ls_0 (f : Nat → Nat) (k : Nat) : lsF f 0 k = none := by
  induction k with
  | zero => rfl
  | succ k ih => rw [ls_n (has_0 _), ih]
def NFr (σ σ1 : Sg) : Prop := ∀ k, k ≠ 36 → σ1 k = σ k
theorem NFr.MS {σ σ1 : Sg} (h : NFr σ σ1) {n : Nat} {sq : Nat → S4} (hM : MS σ n sq) : MS σ1 n sq := by
  have hM : σ 29 10 = nI n ∧ n ≤ 8 ∧ ∀ i, i < n → MV σ i (sq i) := hM
  show σ1 29 10 = nI n ∧ n ≤ 8 ∧ ∀ i, i < n → MV σ1 i (sq i)
  refine ⟨by rw [h 29 (by omega)]; exact hM.1, hM.2.1, fun i hi => ?_⟩
  have := hM.2.2 i hi
  unfold MV at *
  rw [h 31 (by omega), h 32 (by omega), h 33 (by omega), h 34 (by omega)]
  exact this
theorem NFr.AM {σ σ1 : Sg} (h : NFr σ σ1) {sp : S4} (hs : AM σ sp) : AM σ1 sp := by
  have hs : σ 29 6 = nI sp.1 ∧ σ 29 8 = nI sp.2.1 ∧ σ 29 6 + σ 29 7 = nI sp.2.2.1 ∧ σ 29 6 - σ 29 7 = nI sp.2.2.2 ∧ okP sp := hs
  show σ1 29 6 = nI sp.1 ∧ σ1 29 8 = nI sp.2.1 ∧ σ1 29 6 + σ1 29 7 = nI sp.2.2.1 ∧ σ1 29 6 - σ1 29 7 = nI sp.2.2.2 ∧ okP sp
  rw [h 29 (by omega)]
  exact hs
theorem toF_lt8 {sp : S4} {sq : Nat → S4} {n m r c : Nat} (hp : okP sp) (hs : ∀ i, i < n → okS (sq i)) (hn : n ≤ 8) (hm : m < 2 ^ n) (hr : r < 10) (hc : c < 16) : ∀ l, l < 2 * n → has m (l / 2) = true → toF sp sq n m r c l < 100000000 := by
  intro l hl hh
  have h8 := pow_le8 hn
  have := toF_le hp hs hn m hm r c l hr hc hl hh
  omega
theorem le_tm {f : Nat → Nat} {n m : Nat} (hn : n ≤ 8) (hm : m < 2 ^ n) (h0 : ¬ m = 0) : leO (lsF f m (2 * n)) = nI (tmO (lsF f m (2 * n))) := by
  have h8 := pow_le8 hn
  obtain ⟨a, ha⟩ := ls_ex (f := f) hn hm (has_pos m (by omega) h0)
  rw [ha]
  rfl

set_option maxRecDepth 100000 in
set_option maxHeartbeats 4000000 in
theorem c_X9_findRests (l : Launch) (G : Gm) (σ : Sg) (n : Nat) (sq : Nat → S4) (hM : MS σ n sq) (sp : S4) (hs : AM σ sp) : Met l yX9_findRests wsX9_findRests (rmO 4 96) (PP G [.ref (G.2.1 29)] σ) (QV G (fun σ' => NFr σ σ' ∧ TI (σ' 36) sp sq n (2 ^ n) (0))) 0 0 (fr G) := by
  refine r_start (cc := cX9_findRests) (maxL := 3) (ret := none) (by decide) rfl (Nat.le_of_ble_eq_true rfl) ?_
  intro pz ez sz mz below meth cz ls CF hr hlk hK hH hS hl
  have CF : CallFix pz mz cz cX9_findRests 3 sz (List.toArray [.ref (G.2.1 29)]) wsX9_findRests RX9 := CF
  have hx := CF.1
  have hb := CF.2.1
  have hown := CF.2.2.2.1
  have hts := CF.2.2.2.2
  have hl : lv_has ls 3 [(0, .ref (G.2.1 29))] := hl
  have K1 := hts _ (List.mem_of_getElem? (i := 1) rfl)
  have K2 := hts _ (List.mem_of_getElem? (i := 2) rfl)
  have K3 := hts _ (List.mem_of_getElem? (i := 3) rfl)
  have JX9 : ∀ w ∈ wsX90, w ∈ wsX9_findRests := in_r _ [38, 39, 40, 41, 42, 43, 44, 45, 46, 47, 48, 49, 50, 51, 52, 53, 54, 55, 56, 57] (by decide +kernel)
  have hn := hM.1
  have hn8 := hM.2.1
  have h8 := pow_le8 hn8
  have hok : ∀ i, i < n → okS (sq i) := fun i hi => (hM.2.2 i hi).2.2.2.2
  have hokp := hs.2.2.2.2
  have hpos : 0 < 2 ^ n := Nat.pow_pos (by omega)
  refine lv_iconst (v := 0) hx hb dX9_findRests_0 (by decide) ?_
  refine lv_istore_n (lv' := [(1, .int (0 : Int32)), (0, .ref (G.2.1 29))]) hx hb dX9_findRests_1 rfl hl (by decide) rfl (fun ls hl => ?_)
  have lp2 : ∀ (fu : Nat) (m : Nat) (σ1 : Sg) (H : Heap) (locs : List Loc) (ls : Array Slot), (2 ^ n + 1 ≤ m + fu) → (m ≤ 2 ^ n) → (NFr σ σ1) → (TI (σ1 36) sp sq n (m) (0)) → Hp G σ1 H → va_S (fr G) sz.heap H locs → lv_has ls 3 [(0, .ref (G.2.1 29)), (1, .int (nI m))] → W pz l ez (rmO 4 96) sz mz (List.toArray [.ref (G.2.1 29)]) below meth cz H locs 0 0 (MQ below (QV G (fun σ' => NFr σ σ' ∧ TI (σ' 36) sp sq n (2 ^ n) (0))) (List.toArray [.ref (G.2.1 29)]) sz 0 0 (fr G)) (F0 mz 2 ls []) := by
    intro fu
    induction fu with
    | zero => intros; omega
    | succ fu ih2 =>
      intro m σ1 H locs ls hfu hm hF hT hH hS hl
      refine lv_iload_n hx hb dX9_findRests_2 rfl (lv_at hl 1 rfl) ?_
      refine lv_iconst (v := 1) hx hb dX9_findRests_3 (by decide) ?_
      refine lv_aload_n hx hb dX9_findRests_4 rfl (lv_at hl 0 rfl) ?_
      refine r_get CF hK hH 29 (Nat.le_of_ble_eq_true rfl) rfl rfl JX9 10 (by decide) K1 rfl dX9_findRests_5 ?_
      refine r_top (show (σ1 29 10 : Int32) = nI n from (by rw [hF 29 (by omega)]; exact hn)) ?_
      refine lv_ishl hx hb dX9_findRests_8 ?_
      refine r_top (show (((1 : Int32) <<< ((nI n) &&& 31)) : Int32) = nI (2 ^ n) from pow_nI8 n hn8) ?_
      refine lv_icmp_ge (tgt := 73) hx hb dX9_findRests_9 (by decide) (fun c9 => ?_) (fun c9 => ?_)
      · have c9 : (2 ^ n) ≤ m := (nI_leI (a := (2 ^ n)) (b := m) (by omega) (by omega)).mp c9
        exact r_vret CF hr hlk hH hS dX9_findRests_73 ⟨hF, (show m = 2 ^ n by omega) ▸ hT⟩
      · have c9 : m < (2 ^ n) := Nat.lt_of_not_le (fun zq => c9 ((nI_leI (a := (2 ^ n)) (b := m) (by omega) (by omega)).mpr zq))
        refine lv_iconst (v := 0) hx hb dX9_findRests_12 (by decide) ?_
        refine lv_istore_n (lv' := [(2, .int (0 : Int32)), (0, .ref (G.2.1 29)), (1, .int (nI m))]) hx hb dX9_findRests_13 rfl hl (by decide) rfl (fun ls hl => ?_)
        have lp14 : ∀ (fv : Nat) (k : Nat) (σ1' : Sg) (H : Heap) (locs : List Loc) (ls : Array Slot), (2 * n + 1 ≤ k + fv) → (k ≤ 2 * n) → (NFr σ σ1') → (TI (σ1' 36) sp sq n (m) (k)) → Hp G σ1' H → va_S (fr G) sz.heap H locs → lv_has ls 3 [(0, .ref (G.2.1 29)), (1, .int (nI m)), (2, .int (nI k))] → W pz l ez (rmO 4 96) sz mz (List.toArray [.ref (G.2.1 29)]) below meth cz H locs 0 0 (MQ below (QV G (fun σ' => NFr σ σ' ∧ TI (σ' 36) sp sq n (2 ^ n) (0))) (List.toArray [.ref (G.2.1 29)]) sz 0 0 (fr G)) (F0 mz 14 ls []) := by
          intro fv
          induction fv with
          | zero => intros; omega
          | succ fv ih14 =>
            intro k σ1' H locs ls hg hk hF' hT' hH hS hl
            have hM1 := hF'.MS hM
            have hs1 := hF'.AM hs
            refine lv_iload_n hx hb dX9_findRests_14 rfl (lv_at hl 2 rfl) ?_
            refine lv_iconst (v := 2) hx hb dX9_findRests_15 (by decide) ?_
            refine lv_aload_n hx hb dX9_findRests_16 rfl (lv_at hl 0 rfl) ?_
            refine r_get CF hK hH 29 (Nat.le_of_ble_eq_true rfl) rfl rfl JX9 10 (by decide) K1 rfl dX9_findRests_17 ?_
            refine r_top (show (σ1' 29 10 : Int32) = nI n from hM1.1) ?_
            refine lv_imul hx hb dX9_findRests_20 ?_
            refine r_top (show (((2 : Int32) * (nI n)) : Int32) = nI (2 * n) from (pk_mul 2 n)) ?_
            refine lv_icmp_ge (tgt := 67) hx hb dX9_findRests_21 (by decide) (fun c21 => ?_) (fun c21 => ?_)
            · have c21 : (2 * n) ≤ k := (nI_leI (a := (2 * n)) (b := k) (by omega) (by omega)).mp c21
              refine lv_iinc (v := nI (m + 1)) (lv' := [(1, .int (nI (m + 1))), (0, .ref (G.2.1 29)), (2, .int (nI k))]) hx hb dX9_findRests_67 hl (k := 1) rfl (nI_1 _) (by decide) rfl (fun ls hl => ?_)
              refine lv_goto (tgt := 2) hx hb dX9_findRests_70 (by decide) ?_
              exact ih2 (m + 1) σ1' _ _ ls (by omega) (by omega) hF' (TI.row c21 hT') hH hS (lv_sub hl [1, 0] rfl)
            · have c21 : k < (2 * n) := Nat.lt_of_not_le (fun zq => c21 ((nI_leI (a := (2 * n)) (b := k) (by omega) (by omega)).mpr zq))
              refine lv_aload_n hx hb dX9_findRests_24 rfl (lv_at hl 0 rfl) ?_
              refine r_get CF hK hH 29 (Nat.le_of_ble_eq_true rfl) rfl rfl JX9 19 (by decide) K2 rfl dX9_findRests_25 ?_
              refine lv_bipush (v := 16) hx hb dX9_findRests_28 (by decide) ?_
              refine lv_iload_n hx hb dX9_findRests_30 rfl (lv_at hl 1 rfl) ?_
              refine lv_imul hx hb dX9_findRests_31 ?_
              refine lv_iload_n hx hb dX9_findRests_32 rfl (lv_at hl 2 rfl) ?_
              refine lv_iadd hx hb dX9_findRests_33 ?_
              refine r_top (show ((((16 : Int32) * (nI m)) + (nI k)) : Int32) = nI (16 * m + k) from ix16b _ _) ?_
              refine lv_iload_n hx hb dX9_findRests_34 rfl (lv_at hl 1 rfl) ?_
              refine lv_if_ne (tgt := 42) hx hb dX9_findRests_35 (by decide) (fun c35 => ?_) (fun c35 => ?_)
              · have c35 : ¬ m = 0 := fun zq => c35 (by rw [zq]; rfl)
                refine lv_aload_n hx hb dX9_findRests_42 rfl (lv_at hl 0 rfl) ?_
                refine lv_aload_n hx hb dX9_findRests_43 rfl (lv_at hl 0 rfl) ?_
                refine r_get CF hK hH 29 (Nat.le_of_ble_eq_true rfl) rfl rfl JX9 11 (by decide) K3 rfl dX9_findRests_44 ?_
                refine lv_iload_n hx hb dX9_findRests_47 rfl (lv_at hl 2 rfl) ?_
                refine lv_iconst (v := 2) hx hb dX9_findRests_48 (by decide) ?_
                refine lv_idiv hx hb dX9_findRests_49 (by decide) ?_
                refine r_top (show (((nI k) / (2 : Int32)) : Int32) = nI (k / 2) from half_nI (by omega)) ?_
                refine r_iald CF hK hH 31 (Nat.le_of_ble_eq_true rfl) rfl (Nat.le_of_ble_eq_true rfl) (k / 2) rfl (by omega) dX9_findRests_50 ?_
                refine r_top (show (σ1' 31 (k / 2) : Int32) = nI (sq (k / 2)).1 from (hM1.2.2 (k / 2) (by omega)).1) ?_
                refine lv_aload_n hx hb dX9_findRests_51 rfl (lv_at hl 0 rfl) ?_
                refine lv_iload_n hx hb dX9_findRests_52 rfl (lv_at hl 2 rfl) ?_
                refine r_cR hS (r_runV (n := 1) (As := [.int (nI k)]) (rest := [.int (nI (sq (k / 2)).1), .ref (G.2.1 29), .int (nI (16 * m + k)), .ref (G.2.1 36)]) CF hK hH (c_X9_exitColumn l G σ1' n sq hM1 sp hs1 k (by omega)) gX9_findRests_X9_exitColumn rfl rfl rfl rfl (by decide +kernel) ⟨⟨Nat.le_of_ble_eq_true rfl, Nat.le_of_ble_eq_true rfl⟩, Nat.le_of_ble_eq_true rfl, Nat.le_of_ble_eq_true rfl⟩ 29 rfl (Nat.le_of_ble_eq_true rfl) rfl rfl rfl hl.1 rfl (Nat.le_of_ble_eq_true rfl) dX9_findRests_53) (fun H locs hH hS => ?_)
                refine lv_iload_n hx hb dX9_findRests_56 rfl (lv_at hl 1 rfl) ?_
                refine r_cR hS (r_runV (n := 3) (As := [.int (nI (sq (k / 2)).1), .int (nI (exF (sq (k / 2)) (ea k))), .int (nI m)]) (rest := [.int (nI (16 * m + k)), .ref (G.2.1 36)]) CF hK hH (c_X9_leastFrom l G σ1' n sq hM1 sp hs1 (sq (k / 2)).1 (exF (sq (k / 2)) (ea k)) (hok (k / 2) (by omega)).1 (exF_lt (hok (k / 2) (by omega)) _) m c9 (toF sp sq n m (sq (k / 2)).1 (exF (sq (k / 2)) (ea k))) (TI.use hn8 c9 (Or.inr rfl) hT') (toF_lt8 hokp hok hn8 c9 (hok (k / 2) (by omega)).1 (exF_lt (hok (k / 2) (by omega)) _))) gX9_findRests_X9_leastFrom rfl rfl rfl rfl (by decide +kernel) ⟨⟨Nat.le_of_ble_eq_true rfl, Nat.le_of_ble_eq_true rfl⟩, Nat.le_of_ble_eq_true rfl, Nat.le_of_ble_eq_true rfl⟩ 29 rfl (Nat.le_of_ble_eq_true rfl) rfl rfl rfl hl.1 rfl (Nat.le_of_ble_eq_true rfl) dX9_findRests_57) (fun H locs hH hS => ?_)
                refine r_top (show (leO (lsF (toF sp sq n m (sq (k / 2)).1 (exF (sq (k / 2)) (ea k))) m (2 * n)) : Int32) = nI (rsF sp sq n m k) from (by rw [rsF_eq sp sq k hn8 c9]; exact le_tm hn8 c9 c35)) ?_
                refine r_iast CF hK hH hS 36 (Nat.le_of_ble_eq_true rfl) (fun _ => rfl) (Nat.le_of_ble_eq_true rfl) (16 * m + k) rfl (by omega) dX9_findRests_60 (fun H locs hH hS => ?_)
                refine lv_iinc (v := nI (k + 1)) (lv' := [(2, .int (nI (k + 1))), (0, .ref (G.2.1 29)), (1, .int (nI m))]) hx hb dX9_findRests_61 hl (k := 2) rfl (nI_1 _) (by decide) rfl (fun ls hl => ?_)
                refine lv_goto (tgt := 14) hx hb dX9_findRests_64 (by decide) ?_
                exact ih14 (k + 1) (u2 σ1' 36 (16 * m + k) (nI (rsF sp sq n m k))) _ _ ls (by omega) (by omega) (fun k' h1 => (u2_n _ _ _ h1).trans (hF' k' h1)) (by rw [u2_s]; exact TI.next hn8 hT') hH hS (lv_sub hl [1, 2, 0] rfl)
              · have c35 : m = 0 := (nI_eq (b := 0) (by omega) (by omega)).mp c35
                refine lv_iconst (v := 0) hx hb dX9_findRests_38 (by decide) ?_
                refine r_top (show ((0) : Int32) = nI (rsF sp sq n m k) from (by rw [rsF_eq sp sq k hn8 c9, c35, ls_0]; rfl)) ?_
                refine lv_goto (tgt := 60) hx hb dX9_findRests_39 (by decide) ?_
                refine r_iast CF hK hH hS 36 (Nat.le_of_ble_eq_true rfl) (fun _ => rfl) (Nat.le_of_ble_eq_true rfl) (16 * m + k) rfl (by omega) dX9_findRests_60 (fun H locs hH hS => ?_)
                refine lv_iinc (v := nI (k + 1)) (lv' := [(2, .int (nI (k + 1))), (0, .ref (G.2.1 29)), (1, .int (nI m))]) hx hb dX9_findRests_61 hl (k := 2) rfl (nI_1 _) (by decide) rfl (fun ls hl => ?_)
                refine lv_goto (tgt := 14) hx hb dX9_findRests_64 (by decide) ?_
                exact ih14 (k + 1) (u2 σ1' 36 (16 * m + k) (nI (rsF sp sq n m k))) _ _ ls (by omega) (by omega) (fun k' h1 => (u2_n _ _ _ h1).trans (hF' k' h1)) (by rw [u2_s]; exact TI.next hn8 hT') hH hS (lv_sub hl [1, 2, 0] rfl)
        exact lp14 (2 * n + 1) 0 σ1 _ _ ls (by omega) (by omega) hF hT hH hS (lv_sub hl [1, 2, 0] rfl)
  exact lp2 (2 ^ n + 1) 0 σ _ _ ls (by omega) (by omega) (fun _ _ => rfl) (fun m' l _ ho _ => by omega) hH hS (lv_sub hl [1, 0] rfl)

theorem full_ne {n : Nat} (h : ¬ n = 0) : ¬ 2 ^ n - 1 = 0 := by
  cases n with
  | zero => exact absurd rfl h
  | succ n => have := Nat.pow_pos (n := n) (show 0 < 2 by omega); rw [Nat.pow_succ]; omega

set_option maxRecDepth 100000 in
set_option maxHeartbeats 4000000 in
theorem c_X9_routeTime (l : Launch) (G : Gm) (σ : Sg) (R C n : Nat) (sq : Nat → S4) (hA : MA σ R C n sq) (sp : S4) (hs : AM σ sp) (x y : Int32) : Met l yX9_routeTime wsX9_routeTime (rmO 5 118) (PP G [.ref (G.2.1 29), .int x, .int y] σ) (QI G (fun v σ' => v = aRT R C n sq sp x y ∧ NFr σ σ')) 0 0 (fr G) := by
  refine r_start (cc := cX9_routeTime) (maxL := 3) (ret := (some .int)) (by decide) rfl (Nat.le_of_ble_eq_true rfl) ?_
  intro pz ez sz mz below meth cz ls CF hr hlk hK hH hS hl
  have CF : CallFix pz mz cz cX9_routeTime 3 sz (List.toArray [.ref (G.2.1 29), .int x, .int y]) wsX9_routeTime RX9 := CF
  have hx := CF.1
  have hb := CF.2.1
  have hown := CF.2.2.2.1
  have hts := CF.2.2.2.2
  have hl : lv_has ls 3 [(0, .ref (G.2.1 29)), (1, .int x), (2, .int y)] := hl
  have K1 := hts _ (List.mem_of_getElem? (i := 1) rfl)
  have JX9 : ∀ w ∈ wsX90, w ∈ wsX9_routeTime := in_r _ [51, 52, 53, 54, 55, 56, 57, 58, 59, 60, 61, 62, 63, 64, 65, 66, 67, 68, 69, 70] (by decide +kernel)
  obtain ⟨hR, hC, hR3, hR10, hC4, hC16, hM⟩ := hA
  have hn := hM.1
  have hn8 := hM.2.1
  have h8 := pow_le8 hn8
  have hok : ∀ i, i < n → okS (sq i) := fun i hi => (hM.2.2 i hi).2.2.2.2
  have hokp := hs.2.2.2.2
  have hpos : 0 < 2 ^ n := Nat.pow_pos (by omega)
  refine lv_aload_n hx hb dX9_routeTime_0 rfl (lv_at hl 0 rfl) ?_
  refine lv_iload_n hx hb dX9_routeTime_1 rfl (lv_at hl 1 rfl) ?_
  refine lv_iload_n hx hb dX9_routeTime_2 rfl (lv_at hl 2 rfl) ?_
  refine r_cR hS (r_runV (n := 2) (As := [.int x, .int y]) (rest := []) CF hK hH (c_X9_isCell l G σ R C n sq ⟨hR, hC, hR3, hR10, hC4, hC16, hM⟩ x y) gX9_routeTime_X9_isCell rfl rfl rfl rfl (by decide +kernel) ⟨⟨Nat.le_of_ble_eq_true rfl, Nat.le_of_ble_eq_true rfl⟩, Nat.le_of_ble_eq_true rfl, Nat.le_of_ble_eq_true rfl⟩ 29 rfl (Nat.le_of_ble_eq_true rfl) rfl rfl rfl hl.1 rfl (Nat.le_of_ble_eq_true rfl) dX9_routeTime_3) (fun H locs hH hS => ?_)
  refine r_ifneB (tgt := 11) hx hb dX9_routeTime_6 (by decide) (fun c6 => ?_) (fun c6 => ?_)
  · obtain ⟨r, c, hr1, hc1, ex, ey, exN, eyN⟩ := inC_of c6 hR10 hC16
    refine lv_aload_n hx hb dX9_routeTime_11 rfl (lv_at hl 0 rfl) ?_
    refine r_callv hS (r_runV (n := 0) (As := []) (rest := []) CF hK hH (c_X9_findRests l G σ n sq hM sp hs) gX9_routeTime_X9_findRests rfl rfl rfl rfl (by decide +kernel) ⟨⟨Nat.le_of_ble_eq_true rfl, Nat.le_of_ble_eq_true rfl⟩, Nat.le_of_ble_eq_true rfl, Nat.le_of_ble_eq_true rfl⟩ 29 rfl (Nat.le_of_ble_eq_true rfl) rfl rfl rfl hl.1 rfl (Nat.le_of_ble_eq_true rfl) dX9_routeTime_12) (fun σ12 H locs hq hH hS => ?_)
    obtain ⟨hF, hT⟩ := hq
    have hM1 := hF.MS hM
    have hs1 := hF.AM hs
    refine lv_aload_n hx hb dX9_routeTime_15 rfl (lv_at hl 0 rfl) ?_
    refine r_get CF hK hH 29 (Nat.le_of_ble_eq_true rfl) rfl rfl JX9 10 (by decide) K1 rfl dX9_routeTime_16 ?_
    refine r_top (show (σ12 29 10 : Int32) = nI n from hM1.1) ?_
    refine lv_if_ne (tgt := 26) hx hb dX9_routeTime_19 (by decide) (fun c19 => ?_) (fun c19 => ?_)
    · have c19 : ¬ n = 0 := fun zq => c19 (by rw [zq]; rfl)
      refine lv_aload_n hx hb dX9_routeTime_26 rfl (lv_at hl 0 rfl) ?_
      refine lv_iload_n hx hb dX9_routeTime_27 rfl (lv_at hl 1 rfl) ?_
      refine r_top (show (x : Int32) = nI r from ex) ?_
      refine lv_iload_n hx hb dX9_routeTime_28 rfl (lv_at hl 2 rfl) ?_
      refine r_top (show (y : Int32) = nI c from ey) ?_
      refine lv_iconst (v := 1) hx hb dX9_routeTime_29 (by decide) ?_
      refine lv_aload_n hx hb dX9_routeTime_30 rfl (lv_at hl 0 rfl) ?_
      refine r_get CF hK hH 29 (Nat.le_of_ble_eq_true rfl) rfl rfl JX9 10 (by decide) K1 rfl dX9_routeTime_31 ?_
      refine r_top (show (σ12 29 10 : Int32) = nI n from hM1.1) ?_
      refine lv_ishl hx hb dX9_routeTime_34 ?_
      refine r_top (show (((1 : Int32) <<< ((nI n) &&& 31)) : Int32) = nI (2 ^ n) from pow_nI8 n hn8) ?_
      refine lv_iconst (v := 1) hx hb dX9_routeTime_35 (by decide) ?_
      refine lv_isub hx hb dX9_routeTime_36 ?_
      refine r_top (show (((nI (2 ^ n)) - (1 : Int32)) : Int32) = nI (2 ^ n - 1) from (pk_sub (b := 1) (by omega))) ?_
      refine r_cR hS (r_runV (n := 3) (As := [.int (nI r), .int (nI c), .int (nI (2 ^ n - 1))]) (rest := []) CF hK hH (c_X9_leastFrom l G σ12 n sq hM1 sp hs1 r c (by omega) (by omega) (2 ^ n - 1) (by omega) (toF sp sq n (2 ^ n - 1) r c) (TI.use hn8 (by omega) (Or.inl (by omega)) hT) (toF_lt8 hokp hok hn8 (by omega) (by omega) (by omega))) gX9_routeTime_X9_leastFrom rfl rfl rfl rfl (by decide +kernel) ⟨⟨Nat.le_of_ble_eq_true rfl, Nat.le_of_ble_eq_true rfl⟩, Nat.le_of_ble_eq_true rfl, Nat.le_of_ble_eq_true rfl⟩ 29 rfl (Nat.le_of_ble_eq_true rfl) rfl rfl rfl hl.1 rfl (Nat.le_of_ble_eq_true rfl) dX9_routeTime_37) (fun H locs hH hS => ?_)
      exact r_iret CF hr hlk hH hS dX9_routeTime_40 ⟨by rw [le_tm hn8 (by omega) (full_ne c19)]; simp [aRT, c6, exN, eyN], hF⟩
    · have c19 : n = 0 := (nI_eq (b := 0) (by omega) (by omega)).mp c19
      refine lv_iconst (v := 0) hx hb dX9_routeTime_22 (by decide) ?_
      refine lv_goto (tgt := 40) hx hb dX9_routeTime_23 (by decide) ?_
      exact r_iret CF hr hlk hH hS dX9_routeTime_40 ⟨by subst c19; simp [aRT, c6, lsF, tmO]; rfl, hF⟩
  · refine lv_iconst (v := (-1)) hx hb dX9_routeTime_9 (by decide) ?_
    exact r_iret CF hr hlk hH hS dX9_routeTime_10 ⟨by simp [aRT, c6], fun _ _ => rfl⟩

set_option maxRecDepth 100000 in
set_option maxHeartbeats 4000000 in
theorem c_X9_routeStep (l : Launch) (G : Gm) (σ : Sg) (R C n : Nat) (sq : Nat → S4) (hA : MA σ R C n sq) (sp : S4) (hs : AM σ sp) (x y k : Int32) : Met l yX9_routeStep wsX9_routeStep (rmO 5 121) (PP G [.ref (G.2.1 29), .int x, .int y, .int k] σ) (QI G (fun v σ' => v = aRS R C n sq sp x y k ∧ NFr σ σ')) 0 0 (fr G) := by
  refine r_start (cc := cX9_routeStep) (maxL := 7) (ret := (some .int)) (by decide) rfl (Nat.le_of_ble_eq_true rfl) ?_
  intro pz ez sz mz below meth cz ls CF hr hlk hK hH hS hl
  have CF : CallFix pz mz cz cX9_routeStep 7 sz (List.toArray [.ref (G.2.1 29), .int x, .int y, .int k]) wsX9_routeStep RX9 := CF
  have hx := CF.1
  have hb := CF.2.1
  have hown := CF.2.2.2.1
  have hts := CF.2.2.2.2
  have hl : lv_has ls 7 [(0, .ref (G.2.1 29)), (1, .int x), (2, .int y), (3, .int k)] := hl
  have K1 := hts _ (List.mem_of_getElem? (i := 1) rfl)
  have K2 := hts _ (List.mem_of_getElem? (i := 2) rfl)
  have JX9 : ∀ w ∈ wsX90, w ∈ wsX9_routeStep := in_r _ [55, 56, 57, 58, 59, 60, 61, 62, 63, 64, 65, 66, 67, 68, 69, 70, 71, 72, 73, 74] (by decide +kernel)
  obtain ⟨hR, hC, hR3, hR10, hC4, hC16, hM⟩ := hA
  have hn := hM.1
  have hn8 := hM.2.1
  have h8 := pow_le8 hn8
  have hok : ∀ i, i < n → okS (sq i) := fun i hi => (hM.2.2 i hi).2.2.2.2
  have hokp := hs.2.2.2.2
  have hpos : 0 < 2 ^ n := Nat.pow_pos (by omega)
  refine lv_aload_n hx hb dX9_routeStep_0 rfl (lv_at hl 0 rfl) ?_
  refine lv_iload_n hx hb dX9_routeStep_1 rfl (lv_at hl 1 rfl) ?_
  refine lv_iload_n hx hb dX9_routeStep_2 rfl (lv_at hl 2 rfl) ?_
  refine r_cR hS (r_runV (n := 2) (As := [.int x, .int y]) (rest := []) CF hK hH (c_X9_isCell l G σ R C n sq ⟨hR, hC, hR3, hR10, hC4, hC16, hM⟩ x y) gX9_routeStep_X9_isCell rfl rfl rfl rfl (by decide +kernel) ⟨⟨Nat.le_of_ble_eq_true rfl, Nat.le_of_ble_eq_true rfl⟩, Nat.le_of_ble_eq_true rfl, Nat.le_of_ble_eq_true rfl⟩ 29 rfl (Nat.le_of_ble_eq_true rfl) rfl rfl rfl hl.1 rfl (Nat.le_of_ble_eq_true rfl) dX9_routeStep_3) (fun H locs hH hS => ?_)
  refine r_ifneB (tgt := 11) hx hb dX9_routeStep_6 (by decide) (fun c6 => ?_) (fun c6 => ?_)
  · obtain ⟨r, c, hr1, hc1, ex, ey, exN, eyN⟩ := inC_of c6 hR10 hC16
    refine lv_iload_n hx hb dX9_routeStep_11 rfl (lv_at hl 3 rfl) ?_
    refine lv_if_ge (tgt := 18) hx hb dX9_routeStep_12 (by decide) (fun c12 => ?_) (fun c12 => ?_)
    · have c12 : ¬ k < 0 := (by grind)
      refine lv_iload_n hx hb dX9_routeStep_18 rfl (lv_at hl 3 rfl) ?_
      refine lv_aload_n hx hb dX9_routeStep_19 rfl (lv_at hl 0 rfl) ?_
      refine r_get CF hK hH 29 (Nat.le_of_ble_eq_true rfl) rfl rfl JX9 10 (by decide) K1 rfl dX9_routeStep_20 ?_
      refine r_top (show (σ 29 10 : Int32) = nI n from hn) ?_
      refine lv_icmp_lt (tgt := 29) hx hb dX9_routeStep_23 (by decide) (fun c23 => ?_) (fun c23 => ?_)
      · have c23 : ¬ nI n ≤ k := (by grind)
        obtain ⟨kn, hkn, ek⟩ := ((pk_ix k (n := n) (by omega)).resolve_left c12).resolve_left c23
        have ekN := N_of ek (by omega)
        refine lv_aload_n hx hb dX9_routeStep_29 rfl (lv_at hl 0 rfl) ?_
        refine r_callv hS (r_runV (n := 0) (As := []) (rest := []) CF hK hH (c_X9_findRests l G σ n sq hM sp hs) gX9_routeStep_X9_findRests rfl rfl rfl rfl (by decide +kernel) ⟨⟨Nat.le_of_ble_eq_true rfl, Nat.le_of_ble_eq_true rfl⟩, Nat.le_of_ble_eq_true rfl, Nat.le_of_ble_eq_true rfl⟩ 29 rfl (Nat.le_of_ble_eq_true rfl) rfl rfl rfl hl.1 rfl (Nat.le_of_ble_eq_true rfl) dX9_routeStep_30) (fun σ30 H locs hq hH hS => ?_)
        obtain ⟨hF, hT⟩ := hq
        have hM1 := hF.MS hM
        have hs1 := hF.AM hs
        refine lv_iconst (v := 1) hx hb dX9_routeStep_33 (by decide) ?_
        refine lv_aload_n hx hb dX9_routeStep_34 rfl (lv_at hl 0 rfl) ?_
        refine r_get CF hK hH 29 (Nat.le_of_ble_eq_true rfl) rfl rfl JX9 10 (by decide) K1 rfl dX9_routeStep_35 ?_
        refine r_top (show (σ30 29 10 : Int32) = nI n from hM1.1) ?_
        refine lv_ishl hx hb dX9_routeStep_38 ?_
        refine r_top (show (((1 : Int32) <<< ((nI n) &&& 31)) : Int32) = nI (2 ^ n) from pow_nI8 n hn8) ?_
        refine lv_iconst (v := 1) hx hb dX9_routeStep_39 (by decide) ?_
        refine lv_isub hx hb dX9_routeStep_40 ?_
        refine r_top (show (((nI (2 ^ n)) - (1 : Int32)) : Int32) = nI (2 ^ n - 1) from (pk_sub (b := 1) (by omega))) ?_
        refine lv_istore (lv' := [(4, .int (nI (2 ^ n - 1))), (0, .ref (G.2.1 29)), (1, .int x), (2, .int y), (3, .int k)]) hx hb dX9_routeStep_41 hl (by decide) rfl (fun ls hl => ?_)
        obtain ⟨aa, haa⟩ := ls_ex (f := toF sp sq n (2 ^ n - 1) r c) hn8 (m := 2 ^ n - 1) (by omega) (by rw [full_cnt n hn8]; omega)
        refine lv_aload_n hx hb dX9_routeStep_43 rfl (lv_at hl 1 rfl) ?_
        refine lv_iload_n hx hb dX9_routeStep_44 rfl (lv_at hl 2 rfl) ?_
        refine r_top (show (x : Int32) = nI r from ex) ?_
        refine lv_iload_n hx hb dX9_routeStep_45 rfl (lv_at hl 3 rfl) ?_
        refine r_top (show (y : Int32) = nI c from ey) ?_
        refine lv_iload hx hb dX9_routeStep_46 (lv_at hl 0 rfl) ?_
        refine r_cR hS (r_runV (n := 3) (As := [.int (nI r), .int (nI c), .int (nI (2 ^ n - 1))]) (rest := []) CF hK hH (c_X9_firstLeg l G σ30 n sq hM1 sp hs1 r c (by omega) (by omega) (2 ^ n - 1) (by omega) (toF sp sq n (2 ^ n - 1) r c) (TI.use hn8 (by omega) (Or.inl (by omega)) hT) (toF_lt8 hokp hok hn8 (by omega) (by omega) (by omega)) aa haa) gX9_routeStep_X9_firstLeg rfl rfl rfl rfl (by decide +kernel) ⟨⟨Nat.le_of_ble_eq_true rfl, Nat.le_of_ble_eq_true rfl⟩, Nat.le_of_ble_eq_true rfl, Nat.le_of_ble_eq_true rfl⟩ 29 rfl (Nat.le_of_ble_eq_true rfl) rfl rfl rfl hl.1 rfl (Nat.le_of_ble_eq_true rfl) dX9_routeStep_48) (fun H locs hH hS => ?_)
        refine r_top (show (nI aa.1 : Int32) = nI (rtF sp sq n r c 0).2 from (by simp only [rtF, haa]; rfl)) ?_
        refine lv_istore (lv' := [(5, .int (nI (rtF sp sq n r c 0).2)), (4, .int (nI (2 ^ n - 1))), (0, .ref (G.2.1 29)), (1, .int x), (2, .int y), (3, .int k)]) hx hb dX9_routeStep_51 hl (by decide) rfl (fun ls hl => ?_)
        refine lv_iconst (v := 0) hx hb dX9_routeStep_53 (by decide) ?_
        refine lv_istore (lv' := [(6, .int (0 : Int32)), (5, .int (nI (rtF sp sq n r c 0).2)), (4, .int (nI (2 ^ n - 1))), (0, .ref (G.2.1 29)), (1, .int x), (2, .int y), (3, .int k)]) hx hb dX9_routeStep_54 hl (by decide) rfl (fun ls hl => ?_)
        have lp56 : ∀ (fu : Nat) (i : Nat) (H : Heap) (locs : List Loc) (ls : Array Slot), (kn + 1 ≤ i + fu) → (i ≤ kn) → Hp G σ30 H → va_S (fr G) sz.heap H locs → lv_has ls 7 [(0, .ref (G.2.1 29)), (3, .int k), (4, .int (nI (rtF sp sq n r c i).1)), (5, .int (nI (rtF sp sq n r c i).2)), (6, .int (nI i))] → W pz l ez (rmO 5 121) sz mz (List.toArray [.ref (G.2.1 29), .int x, .int y, .int k]) below meth cz H locs 0 0 (MQ below (QI G (fun v σ' => v = aRS R C n sq sp x y k ∧ NFr σ σ')) (List.toArray [.ref (G.2.1 29), .int x, .int y, .int k]) sz 0 0 (fr G)) (F0 mz 56 ls []) := by
          intro fu
          induction fu with
          | zero => intros; omega
          | succ fu ih56 =>
            intro i H locs ls hfu hi hH hS hl
            refine lv_iload hx hb dX9_routeStep_56 (lv_at hl 4 rfl) ?_
            refine lv_iload_n hx hb dX9_routeStep_58 rfl (lv_at hl 1 rfl) ?_
            refine r_top (show (k : Int32) = nI kn from ek) ?_
            refine lv_icmp_ge (tgt := 104) hx hb dX9_routeStep_59 (by decide) (fun c59 => ?_) (fun c59 => ?_)
            · have c59 : kn ≤ i := (nI_leI (a := kn) (b := i) (by omega) (by omega)).mp c59
              refine lv_iload hx hb dX9_routeStep_104 (lv_at hl 3 rfl) ?_
              exact r_iret CF hr hlk hH hS dX9_routeStep_106 ⟨by have e : i = kn := (by omega); rw [e]; simp [aRS, c6, c12, c23, exN, eyN, ekN], hF⟩
            · have c59 : i < kn := Nat.lt_of_not_le (fun zq => c59 ((nI_leI (a := kn) (b := i) (by omega) (by omega)).mpr zq))
              obtain ⟨q1, q2, q3, q4⟩ := rtF_ok sp sq r c hn8 i (by omega)
              obtain ⟨w1, w2, w3⟩ := rmv_facts _ (by omega) _ (by omega) q4
              obtain ⟨bb, hbb⟩ := ls_ex (f := toF sp sq n (rmv (rtF sp sq n r c i).1 ((rtF sp sq n r c i).2 / 2)) (sq ((rtF sp sq n r c i).2 / 2)).1 (exF (sq ((rtF sp sq n r c i).2 / 2)) (ea (rtF sp sq n r c i).2))) hn8 (m := rmv (rtF sp sq n r c i).1 ((rtF sp sq n r c i).2 / 2)) (by omega) (by omega)
              refine lv_iload hx hb dX9_routeStep_62 (lv_at hl 2 rfl) ?_
              refine lv_iconst (v := 1) hx hb dX9_routeStep_64 (by decide) ?_
              refine lv_iload hx hb dX9_routeStep_65 (lv_at hl 3 rfl) ?_
              refine lv_iconst (v := 2) hx hb dX9_routeStep_67 (by decide) ?_
              refine lv_idiv hx hb dX9_routeStep_68 (by decide) ?_
              refine r_top (show (((nI (rtF sp sq n r c i).2) / (2 : Int32)) : Int32) = nI ((rtF sp sq n r c i).2 / 2) from half_nI (by omega)) ?_
              refine lv_ishl hx hb dX9_routeStep_69 ?_
              refine lv_iconst (v := (-1)) hx hb dX9_routeStep_70 (by decide) ?_
              refine lv_ixor hx hb dX9_routeStep_71 ?_
              refine lv_iand hx hb dX9_routeStep_72 ?_
              refine r_top (show (((nI (rtF sp sq n r c i).1) &&& (((1 : Int32) <<< ((nI ((rtF sp sq n r c i).2 / 2)) &&& 31)) ^^^ (-1 : Int32))) : Int32) = nI (rmv (rtF sp sq n r c i).1 ((rtF sp sq n r c i).2 / 2)) from rmv_nI8 _ (by omega) _ (by omega)) ?_
              refine lv_istore (lv' := [(4, .int (nI (rmv (rtF sp sq n r c i).1 ((rtF sp sq n r c i).2 / 2)))), (0, .ref (G.2.1 29)), (3, .int k), (5, .int (nI (rtF sp sq n r c i).2)), (6, .int (nI i))]) hx hb dX9_routeStep_73 hl (by decide) rfl (fun ls hl => ?_)
              refine lv_aload_n hx hb dX9_routeStep_75 rfl (lv_at hl 1 rfl) ?_
              refine lv_aload_n hx hb dX9_routeStep_76 rfl (lv_at hl 1 rfl) ?_
              refine r_get CF hK hH 29 (Nat.le_of_ble_eq_true rfl) rfl rfl JX9 11 (by decide) K2 rfl dX9_routeStep_77 ?_
              refine lv_iload hx hb dX9_routeStep_80 (lv_at hl 3 rfl) ?_
              refine lv_iconst (v := 2) hx hb dX9_routeStep_82 (by decide) ?_
              refine lv_idiv hx hb dX9_routeStep_83 (by decide) ?_
              refine r_top (show (((nI (rtF sp sq n r c i).2) / (2 : Int32)) : Int32) = nI ((rtF sp sq n r c i).2 / 2) from half_nI (by omega)) ?_
              refine r_iald CF hK hH 31 (Nat.le_of_ble_eq_true rfl) rfl (Nat.le_of_ble_eq_true rfl) ((rtF sp sq n r c i).2 / 2) rfl (by omega) dX9_routeStep_84 ?_
              refine r_top (show (σ30 31 ((rtF sp sq n r c i).2 / 2) : Int32) = nI (sq ((rtF sp sq n r c i).2 / 2)).1 from (hM1.2.2 _ (by omega)).1) ?_
              refine lv_aload_n hx hb dX9_routeStep_85 rfl (lv_at hl 1 rfl) ?_
              refine lv_iload hx hb dX9_routeStep_86 (lv_at hl 3 rfl) ?_
              refine r_cR hS (r_runV (n := 1) (As := [.int (nI (rtF sp sq n r c i).2)]) (rest := [.int (nI (sq ((rtF sp sq n r c i).2 / 2)).1), .ref (G.2.1 29)]) CF hK hH (c_X9_exitColumn l G σ30 n sq hM1 sp hs1 (rtF sp sq n r c i).2 (by omega)) gX9_routeStep_X9_exitColumn rfl rfl rfl rfl (by decide +kernel) ⟨⟨Nat.le_of_ble_eq_true rfl, Nat.le_of_ble_eq_true rfl⟩, Nat.le_of_ble_eq_true rfl, Nat.le_of_ble_eq_true rfl⟩ 29 rfl (Nat.le_of_ble_eq_true rfl) rfl rfl rfl hl.1 rfl (Nat.le_of_ble_eq_true rfl) dX9_routeStep_88) (fun H locs hH hS => ?_)
              refine lv_iload hx hb dX9_routeStep_91 (lv_at hl 0 rfl) ?_
              refine r_cR hS (r_runV (n := 3) (As := [.int (nI (sq ((rtF sp sq n r c i).2 / 2)).1), .int (nI (exF (sq ((rtF sp sq n r c i).2 / 2)) (ea (rtF sp sq n r c i).2))), .int (nI (rmv (rtF sp sq n r c i).1 ((rtF sp sq n r c i).2 / 2)))]) (rest := []) CF hK hH (c_X9_firstLeg l G σ30 n sq hM1 sp hs1 (sq ((rtF sp sq n r c i).2 / 2)).1 (exF (sq ((rtF sp sq n r c i).2 / 2)) (ea (rtF sp sq n r c i).2)) (hok _ (by omega)).1 (exF_lt (hok _ (by omega)) _) (rmv (rtF sp sq n r c i).1 ((rtF sp sq n r c i).2 / 2)) (by omega) (toF sp sq n (rmv (rtF sp sq n r c i).1 ((rtF sp sq n r c i).2 / 2)) (sq ((rtF sp sq n r c i).2 / 2)).1 (exF (sq ((rtF sp sq n r c i).2 / 2)) (ea (rtF sp sq n r c i).2))) (TI.use hn8 (by omega) (Or.inl (by omega)) hT) (toF_lt8 hokp hok hn8 (by omega) (hok _ (by omega)).1 (exF_lt (hok _ (by omega)) _)) bb hbb) gX9_routeStep_X9_firstLeg rfl rfl rfl rfl (by decide +kernel) ⟨⟨Nat.le_of_ble_eq_true rfl, Nat.le_of_ble_eq_true rfl⟩, Nat.le_of_ble_eq_true rfl, Nat.le_of_ble_eq_true rfl⟩ 29 rfl (Nat.le_of_ble_eq_true rfl) rfl rfl rfl hl.1 rfl (Nat.le_of_ble_eq_true rfl) dX9_routeStep_93) (fun H locs hH hS => ?_)
              refine r_top (show (nI bb.1 : Int32) = nI (rtF sp sq n r c (i + 1)).2 from (by simp only [rtF, hbb]; rfl)) ?_
              refine lv_istore (lv' := [(5, .int (nI (rtF sp sq n r c (i + 1)).2)), (4, .int (nI (rmv (rtF sp sq n r c i).1 ((rtF sp sq n r c i).2 / 2)))), (0, .ref (G.2.1 29)), (3, .int k), (6, .int (nI i))]) hx hb dX9_routeStep_96 hl (by decide) rfl (fun ls hl => ?_)
              refine lv_iinc (v := nI (i + 1)) (lv' := [(6, .int (nI (i + 1))), (5, .int (nI (rtF sp sq n r c (i + 1)).2)), (4, .int (nI (rmv (rtF sp sq n r c i).1 ((rtF sp sq n r c i).2 / 2)))), (0, .ref (G.2.1 29)), (3, .int k)]) hx hb dX9_routeStep_98 hl (k := 4) rfl (nI_1 _) (by decide) rfl (fun ls hl => ?_)
              refine lv_goto (tgt := 56) hx hb dX9_routeStep_101 (by decide) ?_
              exact ih56 (i + 1) _ _ ls (by omega) (by omega) hH hS (lv_sub hl [3, 4, 2, 1, 0] rfl)
        exact lp56 (kn + 1) 0 _ _ ls (by omega) (by omega) hH hS (lv_sub hl [3, 6, 2, 1, 0] rfl)
      · have c23 : nI n ≤ k := (by grind)
        refine lv_bipush (v := (-6)) hx hb dX9_routeStep_26 (by decide) ?_
        exact r_iret CF hr hlk hH hS dX9_routeStep_28 ⟨by simp [aRS, c6, c12, c23], fun _ _ => rfl⟩
    · have c12 : k < 0 := (by grind)
      refine lv_bipush (v := (-4)) hx hb dX9_routeStep_15 (by decide) ?_
      exact r_iret CF hr hlk hH hS dX9_routeStep_17 ⟨by simp [aRS, c6, c12], fun _ _ => rfl⟩
  · refine lv_iconst (v := (-1)) hx hb dX9_routeStep_9 (by decide) ?_
    exact r_iret CF hr hlk hH hS dX9_routeStep_10 ⟨by simp [aRS, c6], fun _ _ => rfl⟩
