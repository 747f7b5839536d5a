def RFr (σ σ1 : Sg) : Prop := ∀ k, k ≠ 27 → k ≠ 28 → σ1 k = σ k
/-- the times that stand in a table, up to the set m and the leg k -/
def TI (T : Nat → Int32) (sp : S4) (sq : Nat → S4) (n m k : Nat) : Prop := ∀ m' l, l < 2 * n → (m' < m ∨ (m' = m ∧ l < k)) → has m' (l / 2) = false → T (16 * m' + l) = nI (rsF sp sq n m' l)
theorem RFr.ch {σ σ1 : Sg} (h : RFr σ σ1) (o : Option (Nat × Nat)) : RFr σ (chS σ1 o) := fun k h1 h2 => (chS_n _ _ h1).trans (h k h1 h2)
theorem RFr.LS {σ σ1 : Sg} (h : RFr σ σ1) {n : Nat} {sq : Nat → S4} (hL : LSt σ 0 n sq) : LSt σ1 0 n sq := by
  refine ⟨by rw [h (16 + 0) (by omega) (by omega)]; exact hL.1, hL.2.1, fun i hi => ?_⟩
  have := hL.2.2 i hi
  have h8 := hL.2.1
  unfold VS at *
  rw [h (8 * 0 + i) (by omega) (by omega)]
  exact this
theorem RFr.AS {σ σ1 : Sg} (h : RFr σ σ1) {sp : S4} (hs : AS σ sp) : AS σ1 sp := by
  have hs : σ 24 0 = nI sp.1 ∧ σ 24 2 = nI sp.2.1 ∧ σ 24 0 + σ 24 1 = nI sp.2.2.1 ∧ σ 24 0 - σ 24 1 = nI sp.2.2.2 ∧ okP sp := hs
  show σ1 24 0 = nI sp.1 ∧ σ1 24 2 = nI sp.2.1 ∧ σ1 24 0 + σ1 24 1 = nI sp.2.2.1 ∧ σ1 24 0 - σ1 24 1 = nI sp.2.2.2 ∧ okP sp
  rw [h 24 (by omega) (by omega)]
  exact hs
theorem TI.next {T : Nat → Int32} {sp : S4} {sq : Nat → S4} {n m k : Nat} (hn : n ≤ 8) (h : TI T sp sq n m k) : TI (va_up T (16 * m + k) (nI (rsF sp sq n m k))) sp sq n m (k + 1) := by
  intro m' l hl ho hh
  by_cases e : 16 * m' + l = 16 * m + k
  · have e1 : m' = m ∧ l = k ∨ ¬ (m' = m ∧ l = k) := Classical.em _
    rcases e1 with ⟨rfl, rfl⟩ | e1
    · exact up_s _ _ _
    · exfalso
      rcases ho with ho | ⟨ho, ho2⟩ <;> omega
  · rw [up_n _ _ e]
    refine h m' l hl ?_ hh
    rcases ho with ho | ⟨ho, ho2⟩
    · exact Or.inl ho
    · refine Or.inr ⟨ho, ?_⟩
      subst ho
      omega
theorem TI.skip {T : Nat → Int32} {sp : S4} {sq : Nat → S4} {n m k : Nat} (hk : has m (k / 2) = true) (h : TI T sp sq n m k) : TI T sp sq n m (k + 1) := by
  intro m' l hl ho hh
  refine h m' l hl ?_ hh
  rcases ho with ho | ⟨rfl, ho2⟩
  · exact Or.inl ho
  · refine Or.inr ⟨rfl, ?_⟩
    by_cases e : l = k
    · subst e; rw [hk] at hh; cases hh
    · omega
theorem TI.row {T : Nat → Int32} {sp : S4} {sq : Nat → S4} {n m k : Nat} (hk : 2 * n ≤ k) (h : TI T sp sq n m k) : TI T sp sq n (m + 1) 0 := by
  intro m' l hl ho hh
  refine h m' l hl ?_ hh
  rcases ho with ho | ⟨ho, ho2⟩
  · by_cases e : m' = m
    · exact Or.inr ⟨e, by omega⟩
    · exact Or.inl (by omega)
  · omega
/-- what choose asks of the table -/
theorem TI.use {T : Nat → Int32} {sp : S4} {sq : Nat → S4} {n M m k r c : Nat} (hn : n ≤ 8) (hm : m < 2 ^ n) (hM : m < M ∨ m = M) (h : TI T sp sq n M k) : ∀ l, l < 2 * n → has m (l / 2) = true → ∃ t, T (16 * rmv m (l / 2) + l) = nI t ∧ toF sp sq n m r c l = stF sp r c (sq (l / 2)) (ea l) + t := by
  intro l hl hh
  have h8 := pow_le8 hn
  obtain ⟨r1, r2, r3⟩ := rmv_facts m (by omega) (l / 2) (by omega) hh
  exact ⟨rsF sp sq n (rmv m (l / 2)) l, h _ l hl (Or.inl (by omega)) r2, rfl⟩
theorem toF_lt {sp : S4} {sq : Nat → S4} {n m r c : Nat} (hp : okP sp) (hs : ∀ i, i < n → okS (sq i)) (hn : n ≤ 8) (hm : m < 2 ^ n) (hr : r < 10) (hc : c < 16) : ∀ l, l < 2 * n → has m (l / 2) = true → toF sp sq n m r c l < 2 ^ 30 := by
  intro l hl hh
  have h8 := pow_le8 hn
  have := toF_le hp hs hn m hm r c l hr hc hl hh
  omega

set_option maxRecDepth 100000 in
set_option maxHeartbeats 4000000 in
theorem c_X4_fillTimes (l : Launch) (G : Gm) (σ : Sg) (n : Nat) (sq : Nat → S4) (hL : LSt σ 0 n sq) (sp : S4) (hs : AS σ sp) : Met l yX4_fillTimes wsX4_fillTimes (rmO 3 76) (PP G [.ref (G.2.1 27), .ref (G.2.1 (16 + 0)), .ref (G.2.1 24)] σ) (QV G (fun σ' => RFr σ σ' ∧ TI (σ' 28) sp sq n (2 ^ n) 0)) 0 0 (fr G) := by
  refine r_start (cc := cX4_fillTimes) (maxL := 7) (ret := none) (by decide) rfl (Nat.le_of_ble_eq_true rfl) ?_
  intro pz ez sz mz below meth cz ls CF hr hlk hK hH hS hl
  have CF : CallFix pz mz cz cX4_fillTimes 7 sz (List.toArray [.ref (G.2.1 27), .ref (G.2.1 (16 + 0)), .ref (G.2.1 24)]) wsX4_fillTimes RX4 := CF
  have hx := CF.1
  have hb := CF.2.1
  have hown := CF.2.2.2.1
  have hts := CF.2.2.2.2
  have hl : lv_has ls 7 [(0, .ref (G.2.1 27)), (1, .ref (G.2.1 (16 + 0))), (2, .ref (G.2.1 24))] := hl
  have K1 := hts _ (List.mem_of_getElem? (i := 1) rfl)
  have K2 := hts _ (List.mem_of_getElem? (i := 2) rfl)
  have K3 := hts _ (List.mem_of_getElem? (i := 3) rfl)
  have JX4 : ∀ w ∈ wsX40, w ∈ wsX4_fillTimes := in_r _ [75, 76, 77] (by decide +kernel)
  have JX5 : ∀ w ∈ wsX50, w ∈ wsX4_fillTimes := in_r _ [71, 72, 73, 74] (by decide +kernel)
  have JX6 : ∀ w ∈ wsX60, w ∈ wsX4_fillTimes := in_r _ [69, 70] (by decide +kernel)
  have hn : σ (16 + 0) 0 = nI n := hL.1
  have hn8 := hL.2.1
  have h8 := pow_le8 hn8
  have hok : ∀ i, i < n → okS (sq i) := fun i hi => (hL.2.2 i hi).2.2.2.2
  have hokp := hs.2.2.2.2
  have hpos : 0 < 2 ^ n := Nat.pow_pos (by omega)
  refine lv_iconst (v := 0) hx hb dX4_fillTimes_0 (by decide) ?_
  refine lv_istore_n (lv' := [(3, .int (0 : Int32)), (0, .ref (G.2.1 27)), (1, .ref (G.2.1 (16 + 0))), (2, .ref (G.2.1 24))]) hx hb dX4_fillTimes_1 rfl hl (by decide) rfl (fun ls hl => ?_)
  have lp2 : ∀ (fu : Nat) (m : Nat) (σ1 : Sg) (H : Heap) (locs : List Loc) (ls : Array Slot), (2 ^ n + 1 ≤ m + fu) → (m ≤ 2 ^ n) → (RFr σ σ1) → (TI (σ1 28) sp sq n (m) (0)) → Hp G σ1 H → va_S (fr G) sz.heap H locs → lv_has ls 7 [(0, .ref (G.2.1 27)), (1, .ref (G.2.1 (16 + 0))), (2, .ref (G.2.1 24)), (3, .int (nI m))] → W pz l ez (rmO 3 76) sz mz (List.toArray [.ref (G.2.1 27), .ref (G.2.1 (16 + 0)), .ref (G.2.1 24)]) below meth cz H locs 0 0 (MQ below (QV G (fun σ' => RFr σ σ' ∧ TI (σ' 28) sp sq n (2 ^ n) 0)) (List.toArray [.ref (G.2.1 27), .ref (G.2.1 (16 + 0)), .ref (G.2.1 24)]) sz 0 0 (fr G)) (F0 mz 2 ls []) := by
    intro fu
    induction fu with
    | zero => intros; omega
    | succ fu ih2 =>
      intro m σ1 H locs ls hfu hm hF hT hH hS hl
      refine lv_iload_n hx hb dX4_fillTimes_2 rfl (lv_at hl 3 rfl) ?_
      refine lv_iconst (v := 1) hx hb dX4_fillTimes_3 (by decide) ?_
      refine lv_aload_n hx hb dX4_fillTimes_4 rfl (lv_at hl 1 rfl) ?_
      refine r_get CF hK hH (16 + 0) (by omega) (we_l G (by decide) _) rfl JX6 0 (by decide) K1 rfl dX4_fillTimes_5 ?_
      refine r_top (show (σ1 (16 + 0) 0 : Int32) = nI n from (by rw [hF 16 (by omega) (by omega)]; exact hn)) ?_
      refine lv_ishl hx hb dX4_fillTimes_8 ?_
      refine r_top (show (((1 : Int32) <<< ((nI n) &&& 31)) : Int32) = nI (2 ^ n) from pow_nI8 n hn8) ?_
      refine lv_icmp_ge (tgt := 101) hx hb dX4_fillTimes_9 (by decide) (fun c9 => ?_) (fun c9 => ?_)
      · have c9 : (2 ^ n) ≤ m := (nI_leI (a := (2 ^ n)) (b := m) (by omega) (by omega)).mp c9
        exact r_vret CF hr hlk hH hS dX4_fillTimes_101 ⟨hF, by have e : m = 2 ^ n := (by omega); rw [← e]; exact hT⟩
      · have c9 : m < (2 ^ n) := Nat.lt_of_not_le (fun zq => c9 ((nI_leI (a := (2 ^ n)) (b := m) (by omega) (by omega)).mpr zq))
        refine lv_iconst (v := 0) hx hb dX4_fillTimes_12 (by decide) ?_
        refine lv_istore (lv' := [(4, .int (0 : Int32)), (0, .ref (G.2.1 27)), (1, .ref (G.2.1 (16 + 0))), (2, .ref (G.2.1 24)), (3, .int (nI m))]) hx hb dX4_fillTimes_13 hl (by decide) rfl (fun ls hl => ?_)
        have lp15 : ∀ (fv : Nat) (k : Nat) (σ1' : Sg) (H : Heap) (locs : List Loc) (ls : Array Slot), (2 * n + 1 ≤ k + fv) → (k ≤ 2 * n) → (RFr σ σ1') → (TI (σ1' 28) sp sq n (m) (k)) → Hp G σ1' H → va_S (fr G) sz.heap H locs → lv_has ls 7 [(0, .ref (G.2.1 27)), (1, .ref (G.2.1 (16 + 0))), (2, .ref (G.2.1 24)), (3, .int (nI m)), (4, .int (nI k))] → W pz l ez (rmO 3 76) sz mz (List.toArray [.ref (G.2.1 27), .ref (G.2.1 (16 + 0)), .ref (G.2.1 24)]) below meth cz H locs 0 0 (MQ below (QV G (fun σ' => RFr σ σ' ∧ TI (σ' 28) sp sq n (2 ^ n) 0)) (List.toArray [.ref (G.2.1 27), .ref (G.2.1 (16 + 0)), .ref (G.2.1 24)]) sz 0 0 (fr G)) (F0 mz 15 ls []) := by
          intro fv
          induction fv with
          | zero => intros; omega
          | succ fv ih15 =>
            intro k σ1' H locs ls hg hk hF' hT' hH hS hl
            have hL1 := hF'.LS hL
            have hs1 := hF'.AS hs
            refine lv_iload hx hb dX4_fillTimes_15 (lv_at hl 4 rfl) ?_
            refine lv_iconst (v := 2) hx hb dX4_fillTimes_17 (by decide) ?_
            refine lv_aload_n hx hb dX4_fillTimes_18 rfl (lv_at hl 1 rfl) ?_
            refine r_get CF hK hH (16 + 0) (by omega) (we_l G (by decide) _) rfl JX6 0 (by decide) K1 rfl dX4_fillTimes_19 ?_
            refine r_top (show (σ1' (16 + 0) 0 : Int32) = nI n from hL1.1) ?_
            refine lv_imul hx hb dX4_fillTimes_22 ?_
            refine r_top (show (((2 : Int32) * (nI n)) : Int32) = nI (2 * n) from (pk_mul 2 n)) ?_
            refine lv_icmp_ge (tgt := 95) hx hb dX4_fillTimes_23 (by decide) (fun c23 => ?_) (fun c23 => ?_)
            · have c23 : (2 * n) ≤ k := (nI_leI (a := (2 * n)) (b := k) (by omega) (by omega)).mp c23
              refine lv_iinc (v := nI (m + 1)) (lv' := [(3, .int (nI (m + 1))), (0, .ref (G.2.1 27)), (1, .ref (G.2.1 (16 + 0))), (2, .ref (G.2.1 24)), (4, .int (nI k))]) hx hb dX4_fillTimes_95 hl (k := 3) rfl (nI_1 _) (by decide) rfl (fun ls hl => ?_)
              refine lv_goto (tgt := 2) hx hb dX4_fillTimes_98 (by decide) ?_
              exact ih2 (m + 1) σ1' _ _ ls (by omega) (by omega) hF' (TI.row c23 hT') hH hS (lv_sub hl [1, 2, 3, 0] rfl)
            · have c23 : k < (2 * n) := Nat.lt_of_not_le (fun zq => c23 ((nI_leI (a := (2 * n)) (b := k) (by omega) (by omega)).mpr zq))
              refine lv_aload_n hx hb dX4_fillTimes_26 rfl (lv_at hl 1 rfl) ?_
              refine lv_iload hx hb dX4_fillTimes_27 (lv_at hl 4 rfl) ?_
              refine lv_iconst (v := 2) hx hb dX4_fillTimes_29 (by decide) ?_
              refine lv_idiv hx hb dX4_fillTimes_30 (by decide) ?_
              refine r_top (show (((nI k) / (2 : Int32)) : Int32) = nI (k / 2) from half_nI (by omega)) ?_
              refine r_callq hS (r_runV (n := 1) (As := [.int (nI (k / 2))]) (rest := []) CF hK hH (c_X6_find l G σ1' 0 (by decide) n (by exact hL1.1) hn8 (nI (k / 2))) gX4_fillTimes_X6_find rfl rfl rfl rfl (by decide +kernel) ⟨⟨Nat.le_of_ble_eq_true rfl, Nat.le_of_ble_eq_true rfl⟩, Nat.le_of_ble_eq_true rfl, Nat.le_of_ble_eq_true rfl⟩ (16 + 0) rfl (by omega) (we_l G (by decide) _) rfl rfl hl.1 rfl (Nat.le_of_ble_eq_true rfl) dX4_fillTimes_31) (fun rq31 σq31 H locs hq hH hS => ?_)
              obtain ⟨hσ1, hq⟩ := hq
              rw [hσ1] at hH
              rcases hq with ⟨hn31, hr1⟩ | ⟨j31, hj31, hi31, hr1⟩
              · rw [hr1]
                rw [show va_rf none = Value.null from rfl]
                have hin31 := inB_f hn31
                exact absurd hn31 (no_find (by omega) (by omega))
              · rw [hr1]
                rw [show va_rf (some (G.2.1 (8 * 0 + j31))) = Value.ref (G.2.1 (8 * 0 + j31)) from rfl]
                have hin31 := inB_t hj31 hi31 (by omega)
                have hN31 := N_of hi31 (by omega)
                have ej31 : k / 2 = j31 := (nI_eq (by omega) (by omega)).mp hi31
                refine lv_astore (lv' := [(5, .ref (G.2.1 (8 * 0 + j31))), (0, .ref (G.2.1 27)), (1, .ref (G.2.1 (16 + 0))), (2, .ref (G.2.1 24)), (3, .int (nI m)), (4, .int (nI k))]) hx hb dX4_fillTimes_34 hl (by decide) rfl (fun ls hl => ?_)
                refine lv_aload hx hb dX4_fillTimes_36 (lv_at hl 0 rfl) ?_
                refine lv_ifnull hx hb dX4_fillTimes_38 ?_
                refine lv_iload_n hx hb dX4_fillTimes_41 rfl (lv_at hl 4 rfl) ?_
                refine lv_iload hx hb dX4_fillTimes_42 (lv_at hl 5 rfl) ?_
                refine lv_iconst (v := 2) hx hb dX4_fillTimes_44 (by decide) ?_
                refine lv_idiv hx hb dX4_fillTimes_45 (by decide) ?_
                refine r_top (show (((nI k) / (2 : Int32)) : Int32) = nI (k / 2) from half_nI (by omega)) ?_
                refine r_cR hS (r_runS (n := 2) (As := [.int (nI m), .int (nI (k / 2))]) (rest := []) CF hK hH (c_X4_isIn l G σ1' m (k / 2) (by omega) (by omega)) gX4_fillTimes_X4_isIn rfl rfl rfl (by decide +kernel) ⟨⟨Nat.le_of_ble_eq_true rfl, Nat.le_of_ble_eq_true rfl⟩, Nat.le_of_ble_eq_true rfl, Nat.le_of_ble_eq_true rfl⟩ rfl hl.1 rfl (Nat.le_of_ble_eq_true rfl) dX4_fillTimes_46) (fun H locs hH hS => ?_)
                refine r_ifneB (tgt := 89) hx hb dX4_fillTimes_49 (by decide) (fun c49 => ?_) (fun c49 => ?_)
                · refine lv_iinc (v := nI (k + 1)) (lv' := [(4, .int (nI (k + 1))), (5, .ref (G.2.1 (8 * 0 + j31))), (0, .ref (G.2.1 27)), (1, .ref (G.2.1 (16 + 0))), (2, .ref (G.2.1 24)), (3, .int (nI m))]) hx hb dX4_fillTimes_89 hl (k := 5) rfl (nI_1 _) (by decide) rfl (fun ls hl => ?_)
                  refine lv_goto (tgt := 15) hx hb dX4_fillTimes_92 (by decide) ?_
                  exact ih15 (k + 1) σ1' _ _ ls (by omega) (by omega) hF' (TI.skip c49 hT') hH hS (lv_sub hl [2, 3, 4, 5, 0] rfl)
                · refine lv_aload hx hb dX4_fillTimes_52 (lv_at hl 0 rfl) ?_
                  refine lv_iload hx hb dX4_fillTimes_54 (lv_at hl 5 rfl) ?_
                  refine r_cR hS (r_runS (n := 1) (As := [.int (nI k)]) (rest := [.ref (G.2.1 (8 * 0 + j31))]) CF hK hH (c_X4_isEastbound l G σ1' k (by omega)) gX4_fillTimes_X4_isEastbound rfl rfl rfl (by decide +kernel) ⟨⟨Nat.le_of_ble_eq_true rfl, Nat.le_of_ble_eq_true rfl⟩, Nat.le_of_ble_eq_true rfl, Nat.le_of_ble_eq_true rfl⟩ rfl hl.1 rfl (Nat.le_of_ble_eq_true rfl) dX4_fillTimes_56) (fun H locs hH hS => ?_)
                  refine r_cR hS (r_runV (n := 1) (As := [.int (b2i (ea k))]) (rest := []) CF hK hH (c_X5_exitColumn l G σ1' (8 * 0 + j31) (by omega) (sq j31) (hL1.2.2 j31 (by omega)) (ea k)) gX4_fillTimes_X5_exitColumn rfl rfl rfl rfl (by decide +kernel) ⟨⟨Nat.le_of_ble_eq_true rfl, Nat.le_of_ble_eq_true rfl⟩, Nat.le_of_ble_eq_true rfl, Nat.le_of_ble_eq_true rfl⟩ (8 * 0 + j31) rfl (by omega) (we_s G (by omega) _) rfl rfl hl.1 rfl (Nat.le_of_ble_eq_true rfl) dX4_fillTimes_59) (fun H locs hH hS => ?_)
                  refine r_top (show (nI (if (ea k) then (sq j31).2.2.1 else (sq j31).2.1) : Int32) = nI (exF (sq j31) (ea k)) from rfl) ?_
                  refine lv_istore (lv' := [(6, .int (nI (exF (sq j31) (ea k)))), (5, .ref (G.2.1 (8 * 0 + j31))), (0, .ref (G.2.1 27)), (1, .ref (G.2.1 (16 + 0))), (2, .ref (G.2.1 24)), (3, .int (nI m)), (4, .int (nI k))]) hx hb dX4_fillTimes_62 hl (by decide) rfl (fun ls hl => ?_)
                  refine lv_aload_n hx hb dX4_fillTimes_64 rfl (lv_at hl 2 rfl) ?_
                  refine lv_aload_n hx hb dX4_fillTimes_65 rfl (lv_at hl 3 rfl) ?_
                  refine lv_aload_n hx hb dX4_fillTimes_66 rfl (lv_at hl 4 rfl) ?_
                  refine lv_iload_n hx hb dX4_fillTimes_67 rfl (lv_at hl 5 rfl) ?_
                  refine lv_aload hx hb dX4_fillTimes_68 (lv_at hl 1 rfl) ?_
                  refine r_get CF hK hH (8 * 0 + j31) (by omega) (we_s G (by omega) _) rfl JX5 0 (by decide) K2 rfl dX4_fillTimes_70 ?_
                  refine r_top (show (σ1' (8 * 0 + j31) 0 : Int32) = nI (sq j31).1 from (hL1.2.2 j31 (by omega)).1) ?_
                  refine lv_iload hx hb dX4_fillTimes_73 (lv_at hl 0 rfl) ?_
                  refine r_cV hS (r_runV (n := 5) (As := [.ref (G.2.1 (16 + 0)), .ref (G.2.1 24), .int (nI m), .int (nI (sq j31).1), .int (nI (exF (sq j31) (ea k)))]) (rest := []) CF hK hH (c_X4_choose l G σ1' n sq hL1 sp hs1 m (sq j31).1 (exF (sq j31) (ea k)) c9 (hok j31 (by omega)).1 (exF_lt (hok j31 (by omega)) _) (toF sp sq n m (sq j31).1 (exF (sq j31) (ea k))) (TI.use hn8 c9 (Or.inr rfl) hT') (toF_lt hokp hok hn8 c9 (hok j31 (by omega)).1 (exF_lt (hok j31 (by omega)) _))) gX4_fillTimes_X4_choose rfl rfl rfl rfl (by decide +kernel) ⟨⟨Nat.le_of_ble_eq_true rfl, Nat.le_of_ble_eq_true rfl⟩, Nat.le_of_ble_eq_true rfl, Nat.le_of_ble_eq_true rfl⟩ 27 rfl (Nat.le_of_ble_eq_true rfl) rfl rfl rfl hl.1 rfl (Nat.le_of_ble_eq_true rfl) dX4_fillTimes_75) (fun H locs hH hS => ?_)
                  refine lv_aload_n hx hb dX4_fillTimes_78 rfl (lv_at hl 2 rfl) ?_
                  refine lv_iload_n hx hb dX4_fillTimes_79 rfl (lv_at hl 5 rfl) ?_
                  refine lv_iload hx hb dX4_fillTimes_80 (lv_at hl 6 rfl) ?_
                  refine lv_aload_n hx hb dX4_fillTimes_82 rfl (lv_at hl 2 rfl) ?_
                  refine r_get CF hK hH 27 (Nat.le_of_ble_eq_true rfl) rfl rfl JX4 2 (by decide) K3 rfl dX4_fillTimes_83 ?_
                  refine r_top (show ((chS σ1' (lsF (toF sp sq n m (sq j31).1 (exF (sq j31) (ea k))) m (2 * n))) 27 2 : Int32) = nI (rsF sp sq n m k) from (by rw [rsF_eq sp sq k hn8 c9, ej31]; exact u2_ss _ _ _ _)) ?_
                  refine r_cV hS (r_runV (n := 3) (As := [.int (nI m), .int (nI k), .int (nI (rsF sp sq n m k))]) (rest := []) CF hK hH (c_X4_putTimeLeft l G (chS σ1' (lsF (toF sp sq n m (sq j31).1 (exF (sq j31) (ea k))) m (2 * n))) m k (nI (rsF sp sq n m k)) (by omega)) gX4_fillTimes_X4_putTimeLeft rfl rfl rfl rfl (by decide +kernel) ⟨⟨Nat.le_of_ble_eq_true rfl, Nat.le_of_ble_eq_true rfl⟩, Nat.le_of_ble_eq_true rfl, Nat.le_of_ble_eq_true rfl⟩ 27 rfl (Nat.le_of_ble_eq_true rfl) rfl rfl rfl hl.1 rfl (Nat.le_of_ble_eq_true rfl) dX4_fillTimes_86) (fun H locs hH hS => ?_)
                  refine lv_iinc (v := nI (k + 1)) (lv' := [(4, .int (nI (k + 1))), (6, .int (nI (exF (sq j31) (ea k)))), (5, .ref (G.2.1 (8 * 0 + j31))), (0, .ref (G.2.1 27)), (1, .ref (G.2.1 (16 + 0))), (2, .ref (G.2.1 24)), (3, .int (nI m))]) hx hb dX4_fillTimes_89 hl (k := 6) rfl (nI_1 _) (by decide) rfl (fun ls hl => ?_)
                  refine lv_goto (tgt := 15) hx hb dX4_fillTimes_92 (by decide) ?_
                  exact ih15 (k + 1) (u2 (chS σ1' (lsF (toF sp sq n m (sq j31).1 (exF (sq j31) (ea k))) m (2 * n))) 28 (16 * m + k) (nI (rsF sp sq n m k))) _ _ ls (by omega) (by omega) (fun k' h1 h2 => (u2_n _ _ _ h2).trans (hF'.ch _ k' h1 h2)) (by rw [u2_s]; exact TI.next hn8 hT') hH hS (lv_sub hl [3, 4, 5, 6, 0] rfl)
        exact lp15 (2 * n + 1) 0 σ1 _ _ ls (by omega) (by omega) hF hT hH hS (lv_sub hl [1, 2, 3, 4, 0] rfl)
  exact lp2 (2 ^ n + 1) 0 σ _ _ ls (by omega) (by omega) (fun _ _ _ => rfl) (fun m' l _ ho _ => by omega) hH hS (lv_sub hl [1, 2, 3, 0] rfl)

set_option maxRecDepth 100000 in
set_option maxHeartbeats 4000000 in
theorem c_X4_fastestTime (l : Launch) (G : Gm) (σ : Sg) (n : Nat) (sq : Nat → S4) (hL : LSt σ 0 n sq) (sp : S4) (hs : AS σ sp) (r c : Nat) (hr10 : r < 10) (hc16 : c < 16) : Met l yX4_fastestTime wsX4_fastestTime (rmO 4 102) (PP G [.ref (G.2.1 27), .ref (G.2.1 (16 + 0)), .ref (G.2.1 24), .int (nI r), .int (nI c)] σ) (QI G (fun v σ' => v = nI (tmO (lsF (toF sp sq n (2 ^ n - 1) r c) (2 ^ n - 1) (2 * n))) ∧ RFr σ σ')) 0 0 (fr G) := by
  refine r_start (cc := cX4_fastestTime) (maxL := 5) (ret := (some .int)) (by decide) rfl (Nat.le_of_ble_eq_true rfl) ?_
  intro pz ez sz mz below meth cz ls CF hr hlk hK hH hS hl
  have CF : CallFix pz mz cz cX4_fastestTime 5 sz (List.toArray [.ref (G.2.1 27), .ref (G.2.1 (16 + 0)), .ref (G.2.1 24), .int (nI r), .int (nI c)]) wsX4_fastestTime RX4 := CF
  have hx := CF.1
  have hb := CF.2.1
  have hown := CF.2.2.2.1
  have hts := CF.2.2.2.2
  have hl : lv_has ls 5 [(0, .ref (G.2.1 27)), (1, .ref (G.2.1 (16 + 0))), (2, .ref (G.2.1 24)), (3, .int (nI r)), (4, .int (nI c))] := hl
  have K1 := hts _ (List.mem_of_getElem? (i := 1) rfl)
  have K2 := hts _ (List.mem_of_getElem? (i := 2) rfl)
  have JX4 : ∀ w ∈ wsX40, w ∈ wsX4_fastestTime := in_r _ [75, 76, 77] (by decide +kernel)
  have JX6 : ∀ w ∈ wsX60, w ∈ wsX4_fastestTime := in_r _ [73, 74] (by decide +kernel)
  have hn : σ (16 + 0) 0 = nI n := hL.1
  have hn8 := hL.2.1
  have h8 := pow_le8 hn8
  have hok : ∀ i, i < n → okS (sq i) := fun i hi => (hL.2.2 i hi).2.2.2.2
  have hokp := hs.2.2.2.2
  have hpos : 0 < 2 ^ n := Nat.pow_pos (by omega)
  refine lv_aload_n hx hb dX4_fastestTime_0 rfl (lv_at hl 0 rfl) ?_
  refine lv_aload_n hx hb dX4_fastestTime_1 rfl (lv_at hl 1 rfl) ?_
  refine lv_aload_n hx hb dX4_fastestTime_2 rfl (lv_at hl 2 rfl) ?_
  refine r_callv hS (r_runV (n := 2) (As := [.ref (G.2.1 (16 + 0)), .ref (G.2.1 24)]) (rest := []) CF hK hH (c_X4_fillTimes l G σ n sq hL sp hs) gX4_fastestTime_X4_fillTimes rfl rfl rfl rfl (by decide +kernel) ⟨⟨Nat.le_of_ble_eq_true rfl, Nat.le_of_ble_eq_true rfl⟩, Nat.le_of_ble_eq_true rfl, Nat.le_of_ble_eq_true rfl⟩ 27 rfl (Nat.le_of_ble_eq_true rfl) rfl rfl rfl hl.1 rfl (Nat.le_of_ble_eq_true rfl) dX4_fastestTime_3) (fun σ3 H locs hq hH hS => ?_)
  obtain ⟨hF, hT⟩ := hq
  have hL1 := hF.LS hL
  have hs1 := hF.AS hs
  refine lv_aload_n hx hb dX4_fastestTime_6 rfl (lv_at hl 0 rfl) ?_
  refine lv_aload_n hx hb dX4_fastestTime_7 rfl (lv_at hl 1 rfl) ?_
  refine lv_aload_n hx hb dX4_fastestTime_8 rfl (lv_at hl 2 rfl) ?_
  refine lv_iconst (v := 1) hx hb dX4_fastestTime_9 (by decide) ?_
  refine lv_aload_n hx hb dX4_fastestTime_10 rfl (lv_at hl 1 rfl) ?_
  refine r_get CF hK hH (16 + 0) (by omega) (we_l G (by decide) _) rfl JX6 0 (by decide) K1 rfl dX4_fastestTime_11 ?_
  refine r_top (show (σ3 (16 + 0) 0 : Int32) = nI n from hL1.1) ?_
  refine lv_ishl hx hb dX4_fastestTime_14 ?_
  refine r_top (show (((1 : Int32) <<< ((nI n) &&& 31)) : Int32) = nI (2 ^ n) from pow_nI8 n hn8) ?_
  refine lv_iconst (v := 1) hx hb dX4_fastestTime_15 (by decide) ?_
  refine lv_isub hx hb dX4_fastestTime_16 ?_
  refine r_top (show (((nI (2 ^ n)) - (1 : Int32)) : Int32) = nI (2 ^ n - 1) from (pk_sub (b := 1) (by omega))) ?_
  refine lv_iload_n hx hb dX4_fastestTime_17 rfl (lv_at hl 3 rfl) ?_
  refine lv_iload hx hb dX4_fastestTime_18 (lv_at hl 4 rfl) ?_
  refine r_cV hS (r_runV (n := 5) (As := [.ref (G.2.1 (16 + 0)), .ref (G.2.1 24), .int (nI (2 ^ n - 1)), .int (nI r), .int (nI c)]) (rest := []) CF hK hH (c_X4_choose l G σ3 n sq hL1 sp hs1 (2 ^ n - 1) r c (by omega) hr10 hc16 (toF sp sq n (2 ^ n - 1) r c) (TI.use hn8 (by omega) (Or.inl (by omega)) hT) (toF_lt hokp hok hn8 (by omega) hr10 hc16)) gX4_fastestTime_X4_choose rfl rfl rfl rfl (by decide +kernel) ⟨⟨Nat.le_of_ble_eq_true rfl, Nat.le_of_ble_eq_true rfl⟩, Nat.le_of_ble_eq_true rfl, Nat.le_of_ble_eq_true rfl⟩ 27 rfl (Nat.le_of_ble_eq_true rfl) rfl rfl rfl hl.1 rfl (Nat.le_of_ble_eq_true rfl) dX4_fastestTime_20) (fun H locs hH hS => ?_)
  refine lv_aload_n hx hb dX4_fastestTime_23 rfl (lv_at hl 0 rfl) ?_
  refine r_get CF hK hH 27 (Nat.le_of_ble_eq_true rfl) rfl rfl JX4 2 (by decide) K2 rfl dX4_fastestTime_24 ?_
  refine r_top (show ((chS σ3 (lsF (toF sp sq n (2 ^ n - 1) r c) (2 ^ n - 1) (2 * n))) 27 2 : Int32) = nI (tmO (lsF (toF sp sq n (2 ^ n - 1) r c) (2 ^ n - 1) (2 * n))) from u2_ss _ _ _ _) ?_
  exact r_iret CF hr hlk hH hS dX4_fastestTime_27 ⟨rfl, hF.ch _⟩

set_option maxRecDepth 100000 in
set_option maxHeartbeats 4000000 in
theorem c_X4_fastestStep (l : Launch) (G : Gm) (σ : Sg) (n : Nat) (sq : Nat → S4) (hL : LSt σ 0 n sq) (sp : S4) (hs : AS σ sp) (r c : Nat) (hr10 : r < 10) (hc16 : c < 16) (kn : Nat) (hkn : kn < n) : Met l yX4_fastestStep wsX4_fastestStep (rmO 4 102) (PP G [.ref (G.2.1 27), .ref (G.2.1 (16 + 0)), .ref (G.2.1 24), .int (nI r), .int (nI c), .int (nI kn)] σ) (QI G (fun v σ' => v = nI (rtF sp sq n r c kn).2 ∧ RFr σ σ')) 0 0 (fr G) := by
  refine r_start (cc := cX4_fastestStep) (maxL := 10) (ret := (some .int)) (by decide) rfl (Nat.le_of_ble_eq_true rfl) ?_
  intro pz ez sz mz below meth cz ls CF hr hlk hK hH hS hl
  have CF : CallFix pz mz cz cX4_fastestStep 10 sz (List.toArray [.ref (G.2.1 27), .ref (G.2.1 (16 + 0)), .ref (G.2.1 24), .int (nI r), .int (nI c), .int (nI kn)]) wsX4_fastestStep RX4 := CF
  have hx := CF.1
  have hb := CF.2.1
  have hown := CF.2.2.2.1
  have hts := CF.2.2.2.2
  have hl : lv_has ls 10 [(0, .ref (G.2.1 27)), (1, .ref (G.2.1 (16 + 0))), (2, .ref (G.2.1 24)), (3, .int (nI r)), (4, .int (nI c)), (5, .int (nI kn))] := hl
  have K1 := hts _ (List.mem_of_getElem? (i := 1) rfl)
  have K2 := hts _ (List.mem_of_getElem? (i := 2) rfl)
  have K3 := hts _ (List.mem_of_getElem? (i := 3) rfl)
  have JX4 : ∀ w ∈ wsX40, w ∈ wsX4_fastestStep := in_r _ [75, 76, 77] (by decide +kernel)
  have JX5 : ∀ w ∈ wsX50, w ∈ wsX4_fastestStep := in_r _ [78, 79, 80, 81] (by decide +kernel)
  have JX6 : ∀ w ∈ wsX60, w ∈ wsX4_fastestStep := in_r _ [73, 74] (by decide +kernel)
  have hn : σ (16 + 0) 0 = nI n := hL.1
  have hn8 := hL.2.1
  have h8 := pow_le8 hn8
  have hok : ∀ i, i < n → okS (sq i) := fun i hi => (hL.2.2 i hi).2.2.2.2
  have hokp := hs.2.2.2.2
  have hpos : 0 < 2 ^ n := Nat.pow_pos (by omega)
  refine lv_aload_n hx hb dX4_fastestStep_0 rfl (lv_at hl 0 rfl) ?_
  refine lv_aload_n hx hb dX4_fastestStep_1 rfl (lv_at hl 1 rfl) ?_
  refine lv_aload_n hx hb dX4_fastestStep_2 rfl (lv_at hl 2 rfl) ?_
  refine r_callv hS (r_runV (n := 2) (As := [.ref (G.2.1 (16 + 0)), .ref (G.2.1 24)]) (rest := []) CF hK hH (c_X4_fillTimes l G σ n sq hL sp hs) gX4_fastestStep_X4_fillTimes rfl rfl rfl rfl (by decide +kernel) ⟨⟨Nat.le_of_ble_eq_true rfl, Nat.le_of_ble_eq_true rfl⟩, Nat.le_of_ble_eq_true rfl, Nat.le_of_ble_eq_true rfl⟩ 27 rfl (Nat.le_of_ble_eq_true rfl) rfl rfl rfl hl.1 rfl (Nat.le_of_ble_eq_true rfl) dX4_fastestStep_3) (fun σ3 H locs hq hH hS => ?_)
  obtain ⟨hF, hT⟩ := hq
  have hL1 := hF.LS hL
  have hs1 := hF.AS hs
  refine lv_iconst (v := 1) hx hb dX4_fastestStep_6 (by decide) ?_
  refine lv_aload_n hx hb dX4_fastestStep_7 rfl (lv_at hl 1 rfl) ?_
  refine r_get CF hK hH (16 + 0) (by omega) (we_l G (by decide) _) rfl JX6 0 (by decide) K1 rfl dX4_fastestStep_8 ?_
  refine r_top (show (σ3 (16 + 0) 0 : Int32) = nI n from hL1.1) ?_
  refine lv_ishl hx hb dX4_fastestStep_11 ?_
  refine r_top (show (((1 : Int32) <<< ((nI n) &&& 31)) : Int32) = nI (2 ^ n) from pow_nI8 n hn8) ?_
  refine lv_iconst (v := 1) hx hb dX4_fastestStep_12 (by decide) ?_
  refine lv_isub hx hb dX4_fastestStep_13 ?_
  refine r_top (show (((nI (2 ^ n)) - (1 : Int32)) : Int32) = nI (2 ^ n - 1) from (pk_sub (b := 1) (by omega))) ?_
  refine lv_istore (lv' := [(6, .int (nI (2 ^ n - 1))), (0, .ref (G.2.1 27)), (1, .ref (G.2.1 (16 + 0))), (2, .ref (G.2.1 24)), (3, .int (nI r)), (4, .int (nI c)), (5, .int (nI kn))]) hx hb dX4_fastestStep_14 hl (by decide) rfl (fun ls hl => ?_)
  refine lv_aload_n hx hb dX4_fastestStep_16 rfl (lv_at hl 1 rfl) ?_
  refine lv_aload_n hx hb dX4_fastestStep_17 rfl (lv_at hl 2 rfl) ?_
  refine lv_aload_n hx hb dX4_fastestStep_18 rfl (lv_at hl 3 rfl) ?_
  refine lv_iload hx hb dX4_fastestStep_19 (lv_at hl 0 rfl) ?_
  refine lv_iload_n hx hb dX4_fastestStep_21 rfl (lv_at hl 4 rfl) ?_
  refine lv_iload hx hb dX4_fastestStep_22 (lv_at hl 5 rfl) ?_
  refine r_cV hS (r_runV (n := 5) (As := [.ref (G.2.1 (16 + 0)), .ref (G.2.1 24), .int (nI (2 ^ n - 1)), .int (nI r), .int (nI c)]) (rest := []) CF hK hH (c_X4_choose l G σ3 n sq hL1 sp hs1 (2 ^ n - 1) r c (by omega) hr10 hc16 (toF sp sq n (2 ^ n - 1) r c) (TI.use hn8 (by omega) (Or.inl (by omega)) hT) (toF_lt hokp hok hn8 (by omega) hr10 hc16)) gX4_fastestStep_X4_choose rfl rfl rfl rfl (by decide +kernel) ⟨⟨Nat.le_of_ble_eq_true rfl, Nat.le_of_ble_eq_true rfl⟩, Nat.le_of_ble_eq_true rfl, Nat.le_of_ble_eq_true rfl⟩ 27 rfl (Nat.le_of_ble_eq_true rfl) rfl rfl rfl hl.1 rfl (Nat.le_of_ble_eq_true rfl) dX4_fastestStep_24) (fun H locs hH hS => ?_)
  refine lv_iconst (v := 0) hx hb dX4_fastestStep_27 (by decide) ?_
  refine lv_istore (lv' := [(7, .int (0 : Int32)), (6, .int (nI (2 ^ n - 1))), (0, .ref (G.2.1 27)), (1, .ref (G.2.1 (16 + 0))), (2, .ref (G.2.1 24)), (3, .int (nI r)), (4, .int (nI c)), (5, .int (nI kn))]) hx hb dX4_fastestStep_28 hl (by decide) rfl (fun ls hl => ?_)
  have lp30 : ∀ (fu : Nat) (i : Nat) (σ1 : Sg) (H : Heap) (locs : List Loc) (ls : Array Slot), (kn + 1 ≤ i + fu) → (i ≤ kn) → (RFr σ σ1) → (TI (σ1 28) sp sq n (2 ^ n) (0)) → (σ1 27 1 = nI (rtF sp sq n r c i).2) → Hp G σ1 H → va_S (fr G) sz.heap H locs → lv_has ls 10 [(0, .ref (G.2.1 27)), (1, .ref (G.2.1 (16 + 0))), (2, .ref (G.2.1 24)), (5, .int (nI kn)), (6, .int (nI (rtF sp sq n r c i).1)), (7, .int (nI i))] → W pz l ez (rmO 4 102) sz mz (List.toArray [.ref (G.2.1 27), .ref (G.2.1 (16 + 0)), .ref (G.2.1 24), .int (nI r), .int (nI c), .int (nI kn)]) below meth cz H locs 0 0 (MQ below (QI G (fun v σ' => v = nI (rtF sp sq n r c kn).2 ∧ RFr σ σ')) (List.toArray [.ref (G.2.1 27), .ref (G.2.1 (16 + 0)), .ref (G.2.1 24), .int (nI r), .int (nI c), .int (nI kn)]) sz 0 0 (fr G)) (F0 mz 30 ls []) := by
    intro fu
    induction fu with
    | zero => intros; omega
    | succ fu ih30 =>
      intro i σ1 H locs ls hfu hi hF2 hT2 hSt hH hS hl
      have hL2 := hF2.LS hL
      have hs2 := hF2.AS hs
      refine lv_iload hx hb dX4_fastestStep_30 (lv_at hl 5 rfl) ?_
      refine lv_iload hx hb dX4_fastestStep_32 (lv_at hl 3 rfl) ?_
      refine lv_icmp_ge (tgt := 114) hx hb dX4_fastestStep_34 (by decide) (fun c34 => ?_) (fun c34 => ?_)
      · have c34 : kn ≤ i := (nI_leI (a := kn) (b := i) (by omega) (by omega)).mp c34
        refine lv_aload_n hx hb dX4_fastestStep_114 rfl (lv_at hl 0 rfl) ?_
        refine r_get CF hK hH 27 (Nat.le_of_ble_eq_true rfl) rfl rfl JX4 1 (by decide) K2 rfl dX4_fastestStep_115 ?_
        refine r_top (show (σ1 27 1 : Int32) = nI (rtF sp sq n r c i).2 from hSt) ?_
        exact r_iret CF hr hlk hH hS dX4_fastestStep_118 ⟨by have e : i = kn := (by omega); rw [e], hF2⟩
      · have c34 : i < kn := Nat.lt_of_not_le (fun zq => c34 ((nI_leI (a := kn) (b := i) (by omega) (by omega)).mpr zq))
        obtain ⟨q1, q2, q3, q4⟩ := rtF_ok sp sq r c hn8 i (by omega)
        obtain ⟨w1, w2, w3⟩ := rmv_facts _ (by omega) _ (by omega) q4
        refine lv_iload hx hb dX4_fastestStep_37 (lv_at hl 5 rfl) ?_
        refine lv_bipush (v := 8) hx hb dX4_fastestStep_39 (by decide) ?_
        refine lv_icmp_ge (tgt := 114) hx hb dX4_fastestStep_41 (by decide) (fun c41 => ?_) (fun c41 => ?_)
        · exact absurd ((nI_leI (a := 8) (b := i) (by omega) (by omega)).mp c41) (by omega)
        · refine lv_aload_n hx hb dX4_fastestStep_44 rfl (lv_at hl 1 rfl) ?_
          refine lv_aload_n hx hb dX4_fastestStep_45 rfl (lv_at hl 0 rfl) ?_
          refine r_get CF hK hH 27 (Nat.le_of_ble_eq_true rfl) rfl rfl JX4 1 (by decide) K2 rfl dX4_fastestStep_46 ?_
          refine r_top (show (σ1 27 1 : Int32) = nI (rtF sp sq n r c i).2 from hSt) ?_
          refine lv_iconst (v := 2) hx hb dX4_fastestStep_49 (by decide) ?_
          refine lv_idiv hx hb dX4_fastestStep_50 (by decide) ?_
          refine r_top (show (((nI (rtF sp sq n r c i).2) / (2 : Int32)) : Int32) = nI ((rtF sp sq n r c i).2 / 2) from half_nI (by omega)) ?_
          refine r_callq hS (r_runV (n := 1) (As := [.int (nI ((rtF sp sq n r c i).2 / 2))]) (rest := []) CF hK hH (c_X6_find l G σ1 0 (by decide) n (by exact hL2.1) hn8 (nI ((rtF sp sq n r c i).2 / 2))) gX4_fastestStep_X6_find rfl rfl rfl rfl (by decide +kernel) ⟨⟨Nat.le_of_ble_eq_true rfl, Nat.le_of_ble_eq_true rfl⟩, Nat.le_of_ble_eq_true rfl, Nat.le_of_ble_eq_true rfl⟩ (16 + 0) rfl (by omega) (we_l G (by decide) _) rfl rfl hl.1 rfl (Nat.le_of_ble_eq_true rfl) dX4_fastestStep_51) (fun rq51 σq51 H locs hq hH hS => ?_)
          obtain ⟨hσ1, hq⟩ := hq
          rw [hσ1] at hH
          rcases hq with ⟨hn51, hr1⟩ | ⟨j51, hj51, hi51, hr1⟩
          · rw [hr1]
            rw [show va_rf none = Value.null from rfl]
            have hin51 := inB_f hn51
            exact absurd hn51 (no_find (by omega) (by omega))
          · rw [hr1]
            rw [show va_rf (some (G.2.1 (8 * 0 + j51))) = Value.ref (G.2.1 (8 * 0 + j51)) from rfl]
            have hin51 := inB_t hj51 hi51 (by omega)
            have hN51 := N_of hi51 (by omega)
            have ej51 : (rtF sp sq n r c i).2 / 2 = j51 := (nI_eq (by omega) (by omega)).mp hi51
            refine lv_astore (lv' := [(8, .ref (G.2.1 (8 * 0 + j51))), (0, .ref (G.2.1 27)), (1, .ref (G.2.1 (16 + 0))), (2, .ref (G.2.1 24)), (5, .int (nI kn)), (6, .int (nI (rtF sp sq n r c i).1)), (7, .int (nI i))]) hx hb dX4_fastestStep_54 hl (by decide) rfl (fun ls hl => ?_)
            refine lv_aload hx hb dX4_fastestStep_56 (lv_at hl 0 rfl) ?_
            refine lv_ifnonnull (tgt := 64) hx hb dX4_fastestStep_58 (by decide) ?_
            refine lv_iload hx hb dX4_fastestStep_64 (lv_at hl 5 rfl) ?_
            refine lv_iconst (v := 1) hx hb dX4_fastestStep_66 (by decide) ?_
            refine lv_aload_n hx hb dX4_fastestStep_67 rfl (lv_at hl 1 rfl) ?_
            refine r_get CF hK hH 27 (Nat.le_of_ble_eq_true rfl) rfl rfl JX4 1 (by decide) K2 rfl dX4_fastestStep_68 ?_
            refine r_top (show (σ1 27 1 : Int32) = nI (rtF sp sq n r c i).2 from hSt) ?_
            refine lv_iconst (v := 2) hx hb dX4_fastestStep_71 (by decide) ?_
            refine lv_idiv hx hb dX4_fastestStep_72 (by decide) ?_
            refine r_top (show (((nI (rtF sp sq n r c i).2) / (2 : Int32)) : Int32) = nI ((rtF sp sq n r c i).2 / 2) from half_nI (by omega)) ?_
            refine lv_ishl hx hb dX4_fastestStep_73 ?_
            refine lv_iconst (v := (-1)) hx hb dX4_fastestStep_74 (by decide) ?_
            refine lv_ixor hx hb dX4_fastestStep_75 ?_
            refine lv_iand hx hb dX4_fastestStep_76 ?_
            refine r_top (show (((nI (rtF sp sq n r c i).1) &&& (((1 : Int32) <<< ((nI ((rtF sp sq n r c i).2 / 2)) &&& 31)) ^^^ (-1 : Int32))) : Int32) = nI (rmv (rtF sp sq n r c i).1 ((rtF sp sq n r c i).2 / 2)) from rmv_nI8 _ (by omega) _ (by omega)) ?_
            refine lv_istore (lv' := [(6, .int (nI (rmv (rtF sp sq n r c i).1 ((rtF sp sq n r c i).2 / 2)))), (8, .ref (G.2.1 (8 * 0 + j51))), (0, .ref (G.2.1 27)), (1, .ref (G.2.1 (16 + 0))), (2, .ref (G.2.1 24)), (5, .int (nI kn)), (7, .int (nI i))]) hx hb dX4_fastestStep_77 hl (by decide) rfl (fun ls hl => ?_)
            refine lv_aload hx hb dX4_fastestStep_79 (lv_at hl 1 rfl) ?_
            refine lv_aload_n hx hb dX4_fastestStep_81 rfl (lv_at hl 2 rfl) ?_
            refine r_get CF hK hH 27 (Nat.le_of_ble_eq_true rfl) rfl rfl JX4 1 (by decide) K2 rfl dX4_fastestStep_82 ?_
            refine r_top (show (σ1 27 1 : Int32) = nI (rtF sp sq n r c i).2 from hSt) ?_
            refine r_cR hS (r_runS (n := 1) (As := [.int (nI (rtF sp sq n r c i).2)]) (rest := [.ref (G.2.1 (8 * 0 + j51))]) CF hK hH (c_X4_isEastbound l G σ1 (rtF sp sq n r c i).2 (by omega)) gX4_fastestStep_X4_isEastbound rfl rfl rfl (by decide +kernel) ⟨⟨Nat.le_of_ble_eq_true rfl, Nat.le_of_ble_eq_true rfl⟩, Nat.le_of_ble_eq_true rfl, Nat.le_of_ble_eq_true rfl⟩ rfl hl.1 rfl (Nat.le_of_ble_eq_true rfl) dX4_fastestStep_85) (fun H locs hH hS => ?_)
            refine r_cR hS (r_runV (n := 1) (As := [.int (b2i (ea (rtF sp sq n r c i).2))]) (rest := []) CF hK hH (c_X5_exitColumn l G σ1 (8 * 0 + j51) (by omega) (sq j51) (hL2.2.2 j51 (by omega)) (ea (rtF sp sq n r c i).2)) gX4_fastestStep_X5_exitColumn rfl rfl rfl rfl (by decide +kernel) ⟨⟨Nat.le_of_ble_eq_true rfl, Nat.le_of_ble_eq_true rfl⟩, Nat.le_of_ble_eq_true rfl, Nat.le_of_ble_eq_true rfl⟩ (8 * 0 + j51) rfl (by omega) (we_s G (by omega) _) rfl rfl hl.1 rfl (Nat.le_of_ble_eq_true rfl) dX4_fastestStep_88) (fun H locs hH hS => ?_)
            refine r_top (show (nI (if (ea (rtF sp sq n r c i).2) then (sq j51).2.2.1 else (sq j51).2.1) : Int32) = nI (exF (sq j51) (ea (rtF sp sq n r c i).2)) from rfl) ?_
            refine lv_istore (lv' := [(9, .int (nI (exF (sq j51) (ea (rtF sp sq n r c i).2)))), (6, .int (nI (rmv (rtF sp sq n r c i).1 ((rtF sp sq n r c i).2 / 2)))), (8, .ref (G.2.1 (8 * 0 + j51))), (0, .ref (G.2.1 27)), (1, .ref (G.2.1 (16 + 0))), (2, .ref (G.2.1 24)), (5, .int (nI kn)), (7, .int (nI i))]) hx hb dX4_fastestStep_91 hl (by decide) rfl (fun ls hl => ?_)
            refine lv_aload_n hx hb dX4_fastestStep_93 rfl (lv_at hl 3 rfl) ?_
            refine lv_aload_n hx hb dX4_fastestStep_94 rfl (lv_at hl 4 rfl) ?_
            refine lv_aload_n hx hb dX4_fastestStep_95 rfl (lv_at hl 5 rfl) ?_
            refine lv_iload hx hb dX4_fastestStep_96 (lv_at hl 1 rfl) ?_
            refine lv_aload hx hb dX4_fastestStep_98 (lv_at hl 2 rfl) ?_
            refine r_get CF hK hH (8 * 0 + j51) (by omega) (we_s G (by omega) _) rfl JX5 0 (by decide) K3 rfl dX4_fastestStep_100 ?_
            refine r_top (show (σ1 (8 * 0 + j51) 0 : Int32) = nI (sq j51).1 from (hL2.2.2 j51 (by omega)).1) ?_
            refine lv_iload hx hb dX4_fastestStep_103 (lv_at hl 0 rfl) ?_
            refine r_cV hS (r_runV (n := 5) (As := [.ref (G.2.1 (16 + 0)), .ref (G.2.1 24), .int (nI (rmv (rtF sp sq n r c i).1 ((rtF sp sq n r c i).2 / 2))), .int (nI (sq j51).1), .int (nI (exF (sq j51) (ea (rtF sp sq n r c i).2)))]) (rest := []) CF hK hH (c_X4_choose l G σ1 n sq hL2 sp hs2 (rmv (rtF sp sq n r c i).1 ((rtF sp sq n r c i).2 / 2)) (sq j51).1 (exF (sq j51) (ea (rtF sp sq n r c i).2)) (by omega) (hok j51 (by omega)).1 (exF_lt (hok j51 (by omega)) _) (toF sp sq n (rmv (rtF sp sq n r c i).1 ((rtF sp sq n r c i).2 / 2)) (sq j51).1 (exF (sq j51) (ea (rtF sp sq n r c i).2))) (TI.use hn8 (by omega) (Or.inl (by omega)) hT2) (toF_lt hokp hok hn8 (by omega) (hok j51 (by omega)).1 (exF_lt (hok j51 (by omega)) _))) gX4_fastestStep_X4_choose rfl rfl rfl rfl (by decide +kernel) ⟨⟨Nat.le_of_ble_eq_true rfl, Nat.le_of_ble_eq_true rfl⟩, Nat.le_of_ble_eq_true rfl, Nat.le_of_ble_eq_true rfl⟩ 27 rfl (Nat.le_of_ble_eq_true rfl) rfl rfl rfl hl.1 rfl (Nat.le_of_ble_eq_true rfl) dX4_fastestStep_105) (fun H locs hH hS => ?_)
            refine lv_iinc (v := nI (i + 1)) (lv' := [(7, .int (nI (i + 1))), (9, .int (nI (exF (sq j51) (ea (rtF sp sq n r c i).2)))), (6, .int (nI (rmv (rtF sp sq n r c i).1 ((rtF sp sq n r c i).2 / 2)))), (8, .ref (G.2.1 (8 * 0 + j51))), (0, .ref (G.2.1 27)), (1, .ref (G.2.1 (16 + 0))), (2, .ref (G.2.1 24)), (5, .int (nI kn))]) hx hb dX4_fastestStep_108 hl (k := 7) rfl (nI_1 _) (by decide) rfl (fun ls hl => ?_)
            refine lv_goto (tgt := 30) hx hb dX4_fastestStep_111 (by decide) ?_
            exact ih30 (i + 1) (chS σ1 (lsF (toF sp sq n (rmv (rtF sp sq n r c i).1 ((rtF sp sq n r c i).2 / 2)) (sq j51).1 (exF (sq j51) (ea (rtF sp sq n r c i).2))) (rmv (rtF sp sq n r c i).1 ((rtF sp sq n r c i).2 / 2)) (2 * n))) _ _ ls (by omega) (by omega) (hF2.ch _) hT2 (by obtain ⟨a, ha⟩ := ls_ex (f := toF sp sq n (rmv (rtF sp sq n r c i).1 ((rtF sp sq n r c i).2 / 2)) (sq j51).1 (exF (sq j51) (ea (rtF sp sq n r c i).2))) hn8 (m := rmv (rtF sp sq n r c i).1 ((rtF sp sq n r c i).2 / 2)) (by omega) (by omega); rw [ha]; rw [ej51] at ha; simp only [rtF, ej51, ha]; rfl) hH hS (lv_sub hl [4, 5, 6, 7, 2, 0] rfl)
  exact lp30 (kn + 1) 0 (chS σ3 (lsF (toF sp sq n (2 ^ n - 1) r c) (2 ^ n - 1) (2 * n))) _ _ ls (by omega) (by omega) (hF.ch _) hT (by obtain ⟨a, ha⟩ := ls_ex (f := toF sp sq n (2 ^ n - 1) r c) hn8 (m := 2 ^ n - 1) (by omega) (by rw [full_cnt n hn8]; omega); simp only [rtF, ha]; rfl) hH hS (lv_sub hl [2, 3, 4, 7, 1, 0] rfl)
