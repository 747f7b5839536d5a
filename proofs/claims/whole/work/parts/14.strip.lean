theorem quo_nI {a d : Nat} (ha : a < 2 ^ 31) (h0 : 0 < d) (hd : d < 2 ^ 31) : quo (nI a) (nI d) = nI (a / d) := by
  unfold quo
  rw [if_neg (nI_nle h0 hd), pk_div ha h0 hd]
theorem ph_nI {σ : Sg} {k : Nat} {q : S4} (hv : VS σ k q) : quo (σ k 2 - σ k 1) (σ k 3) + 1 = nI (phF q) := by
  obtain ⟨h0, h1, h2, h3, h4, h5, h6, h7, h8⟩ := hv
  rw [h1, h2, h3, pk_sub h5, quo_nI (by omega) (by omega) (by omega)]
  exact nI_1 _

set_option maxRecDepth 100000 in
set_option maxHeartbeats 4000000 in
theorem c_X5_put (l : Launch) (G : Gm) (σ : Sg) (k : Nat) (hk : k < 16) (a b c d : Int32) : Met l yX5_put wsX5_put (rmO 0 0) (PP G [.ref (G.2.1 k), .int a, .int b, .int c, .int d] σ) (QV G (VV (u2 (u2 (u2 (u2 σ k 0 a) k 1 b) k 2 c) k 3 d))) 0 0 (fr G) := by
  refine r_start (cc := cX5_put) (maxL := 5) (ret := none) (by decide) rfl (Nat.le_of_ble_eq_true rfl) ?_
  intro pz ez sz mz below meth cz ls CF hr hlk hK hH hS hl
  have CF : CallFix pz mz cz cX5_put 5 sz (List.toArray [.ref (G.2.1 k), .int a, .int b, .int c, .int d]) wsX5_put RX5 := CF
  have hx := CF.1
  have hb := CF.2.1
  have hown := CF.2.2.2.1
  have hts := CF.2.2.2.2
  have hl : lv_has ls 5 [(0, .ref (G.2.1 k)), (1, .int a), (2, .int b), (3, .int c), (4, .int d)] := hl
  have K1 := hts _ (List.mem_of_getElem? (i := 1) rfl)
  have K2 := hts _ (List.mem_of_getElem? (i := 2) rfl)
  have K3 := hts _ (List.mem_of_getElem? (i := 3) rfl)
  have K4 := hts _ (List.mem_of_getElem? (i := 4) rfl)
  have JX5 : ∀ w ∈ wsX50, w ∈ wsX5_put := in_r _ [5, 6, 7, 8] (by decide +kernel)
  refine lv_aload_n hx hb dX5_put_0 rfl (lv_at hl 0 rfl) ?_
  refine lv_iload_n hx hb dX5_put_1 rfl (lv_at hl 1 rfl) ?_
  refine r_put CF hK hH hS k (by omega) (we_s G hk _) rfl JX5 tyX5 tyX5_ok nmX5 0 (by decide) K1 rfl (by decide +kernel) (Nat.le_of_ble_eq_true rfl) (by rw [we_s G hk]; rfl) dX5_put_2 (fun H locs hH hS => ?_)
  refine lv_aload_n hx hb dX5_put_5 rfl (lv_at hl 0 rfl) ?_
  refine lv_iload_n hx hb dX5_put_6 rfl (lv_at hl 2 rfl) ?_
  refine r_put CF hK hH hS k (by omega) (we_s G hk _) rfl JX5 tyX5 tyX5_ok nmX5 1 (by decide) K2 rfl (by decide +kernel) (Nat.le_of_ble_eq_true rfl) (by rw [we_s G hk]; rfl) dX5_put_7 (fun H locs hH hS => ?_)
  refine lv_aload_n hx hb dX5_put_10 rfl (lv_at hl 0 rfl) ?_
  refine lv_iload_n hx hb dX5_put_11 rfl (lv_at hl 3 rfl) ?_
  refine r_put CF hK hH hS k (by omega) (we_s G hk _) rfl JX5 tyX5 tyX5_ok nmX5 2 (by decide) K3 rfl (by decide +kernel) (Nat.le_of_ble_eq_true rfl) (by rw [we_s G hk]; rfl) dX5_put_12 (fun H locs hH hS => ?_)
  refine lv_aload_n hx hb dX5_put_15 rfl (lv_at hl 0 rfl) ?_
  refine lv_iload hx hb dX5_put_16 (lv_at hl 4 rfl) ?_
  refine r_put CF hK hH hS k (by omega) (we_s G hk _) rfl JX5 tyX5 tyX5_ok nmX5 3 (by decide) K4 rfl (by decide +kernel) (Nat.le_of_ble_eq_true rfl) (by rw [we_s G hk]; rfl) dX5_put_18 (fun H locs hH hS => ?_)
  exact r_vret CF hr hlk hH hS dX5_put_21 rfl

set_option maxRecDepth 100000 in
set_option maxHeartbeats 4000000 in
theorem c_X5_photos (l : Launch) (G : Gm) (σ : Sg) (k : Nat) (hk : k < 16) (q : S4) (hv : VS σ k q) : Met l yX5_photos wsX5_photos (rmO 1 21) (PP G [.ref (G.2.1 k)] σ) (QI G (RV (nI (phF q)) σ)) 0 0 (fr G) := by
  refine r_start (cc := cX5_photos) (maxL := 1) (ret := (some .int)) (by decide) rfl (Nat.le_of_ble_eq_true rfl) ?_
  intro pz ez sz mz below meth cz ls CF hr hlk hK hH hS hl
  have CF : CallFix pz mz cz cX5_photos 1 sz (List.toArray [.ref (G.2.1 k)]) wsX5_photos RX5 := CF
  have hx := CF.1
  have hb := CF.2.1
  have hown := CF.2.2.2.1
  have hts := CF.2.2.2.2
  have hl : lv_has ls 1 [(0, .ref (G.2.1 k))] := hl
  have K1 := hts _ (List.mem_of_getElem? (i := 1) rfl)
  have K2 := hts _ (List.mem_of_getElem? (i := 2) rfl)
  have K3 := hts _ (List.mem_of_getElem? (i := 3) rfl)
  have K4 := hts _ (List.mem_of_getElem? (i := 4) rfl)
  have K5 := hts _ (List.mem_of_getElem? (i := 5) rfl)
  have JX5 : ∀ w ∈ wsX50, w ∈ wsX5_photos := in_r _ [7, 8, 9, 10] (by decide +kernel)
  refine lv_aload_n hx hb dX5_photos_0 rfl (lv_at hl 0 rfl) ?_
  refine r_get CF hK hH k (by omega) (we_s G hk _) rfl JX5 2 (by decide) K1 rfl dX5_photos_1 ?_
  refine lv_aload_n hx hb dX5_photos_4 rfl (lv_at hl 0 rfl) ?_
  refine r_get CF hK hH k (by omega) (we_s G hk _) rfl JX5 1 (by decide) K2 rfl dX5_photos_5 ?_
  refine lv_isub hx hb dX5_photos_8 ?_
  refine lv_aload_n hx hb dX5_photos_9 rfl (lv_at hl 0 rfl) ?_
  refine r_get CF hK hH k (by omega) (we_s G hk _) rfl JX5 3 (by decide) K3 rfl dX5_photos_10 ?_
  refine r_cR hS (r_runN (n := 2) (As := [.int ((σ k 2) - (σ k 1)), .int (σ k 3)]) (rest := []) CF hK hH (c_X8_quotient l G σ ((σ k 2) - (σ k 1)) (σ k 3)) gX5_photos_X8_quotient_n22 rfl rfl rfl hK.2.2.2.1 K5 K4 (by decide +kernel) ⟨⟨Nat.le_of_ble_eq_true rfl, Nat.le_of_ble_eq_true rfl⟩, Nat.le_of_ble_eq_true rfl, Nat.le_of_ble_eq_true rfl⟩ rfl hl.1 rfl (Nat.le_of_ble_eq_true rfl) dX5_photos_13) (fun H locs hH hS => ?_)
  refine lv_iconst (v := 1) hx hb dX5_photos_16 (by decide) ?_
  refine lv_iadd hx hb dX5_photos_17 ?_
  exact r_iret CF hr hlk hH hS dX5_photos_18 ⟨ph_nI hv, rfl⟩

def hpB (x : Int32) (q : S4) : Bool := !decide (x < 0) && !decide (nI (phF q) ≤ x)

set_option maxRecDepth 100000 in
set_option maxHeartbeats 4000000 in
theorem c_X5_hasPhoto (l : Launch) (G : Gm) (σ : Sg) (k : Nat) (hk : k < 16) (q : S4) (hv : VS σ k q) (x : Int32) : Met l yX5_hasPhoto wsX5_hasPhoto (rmO 2 41) (PP G [.ref (G.2.1 k), .int x] σ) (QI G (RV (b2i (hpB x q)) σ)) 0 0 (fr G) := by
  refine r_start (cc := cX5_hasPhoto) (maxL := 2) (ret := (some .boolean)) (by decide) rfl (Nat.le_of_ble_eq_true rfl) ?_
  intro pz ez sz mz below meth cz ls CF hr hlk hK hH hS hl
  have CF : CallFix pz mz cz cX5_hasPhoto 2 sz (List.toArray [.ref (G.2.1 k), .int x]) wsX5_hasPhoto RX5 := CF
  have hx := CF.1
  have hb := CF.2.1
  have hown := CF.2.2.2.1
  have hts := CF.2.2.2.2
  have hl : lv_has ls 2 [(0, .ref (G.2.1 k)), (1, .int x)] := hl
  refine lv_iload_n hx hb dX5_hasPhoto_0 rfl (lv_at hl 1 rfl) ?_
  refine lv_if_lt (tgt := 16) hx hb dX5_hasPhoto_1 (by decide) (fun c1 => ?_) (fun c1 => ?_)
  · refine lv_iconst (v := 0) hx hb dX5_hasPhoto_16 (by decide) ?_
    exact r_zret CF hr hlk hH hS rfl dX5_hasPhoto_17 ⟨by simp [hpB, b2i, c1], rfl⟩
  · refine lv_iload_n hx hb dX5_hasPhoto_4 rfl (lv_at hl 1 rfl) ?_
    refine lv_aload_n hx hb dX5_hasPhoto_5 rfl (lv_at hl 0 rfl) ?_
    refine r_cR hS (r_runV (n := 0) (As := []) (rest := [.int x]) CF hK hH (c_X5_photos l G σ k hk q hv) gX5_hasPhoto_X5_photos rfl rfl rfl rfl (by decide +kernel) ⟨⟨Nat.le_of_ble_eq_true rfl, Nat.le_of_ble_eq_true rfl⟩, Nat.le_of_ble_eq_true rfl, Nat.le_of_ble_eq_true rfl⟩ k rfl (by omega) (we_s G hk _) rfl rfl hl.1 rfl (Nat.le_of_ble_eq_true rfl) dX5_hasPhoto_6) (fun H locs hH hS => ?_)
    refine lv_icmp_ge (tgt := 16) hx hb dX5_hasPhoto_9 (by decide) (fun c9 => ?_) (fun c9 => ?_)
    · refine lv_iconst (v := 0) hx hb dX5_hasPhoto_16 (by decide) ?_
      exact r_zret CF hr hlk hH hS rfl dX5_hasPhoto_17 ⟨by simp [hpB, b2i, c1, c9], rfl⟩
    · refine lv_iconst (v := 1) hx hb dX5_hasPhoto_12 (by decide) ?_
      refine lv_goto (tgt := 17) hx hb dX5_hasPhoto_13 (by decide) ?_
      exact r_zret CF hr hlk hH hS rfl dX5_hasPhoto_17 ⟨by simp [hpB, b2i, c1, c9], rfl⟩

set_option maxRecDepth 100000 in
set_option maxHeartbeats 4000000 in
theorem c_X5_columnOf (l : Launch) (G : Gm) (σ : Sg) (k : Nat) (hk : k < 16) (q : S4) (hv : VS σ k q) (j : Nat) : Met l yX5_columnOf wsX5_columnOf (rmO 0 0) (PP G [.ref (G.2.1 k), .int (nI j)] σ) (QI G (RV (nI (q.2.1 + j * q.2.2.2)) σ)) 0 0 (fr G) := by
  refine r_start (cc := cX5_columnOf) (maxL := 2) (ret := (some .int)) (by decide) rfl (Nat.le_of_ble_eq_true rfl) ?_
  intro pz ez sz mz below meth cz ls CF hr hlk hK hH hS hl
  have CF : CallFix pz mz cz cX5_columnOf 2 sz (List.toArray [.ref (G.2.1 k), .int (nI j)]) wsX5_columnOf RX5 := CF
  have hx := CF.1
  have hb := CF.2.1
  have hown := CF.2.2.2.1
  have hts := CF.2.2.2.2
  have hl : lv_has ls 2 [(0, .ref (G.2.1 k)), (1, .int (nI j))] := hl
  have K1 := hts _ (List.mem_of_getElem? (i := 1) rfl)
  have K2 := hts _ (List.mem_of_getElem? (i := 2) rfl)
  have JX5 : ∀ w ∈ wsX50, w ∈ wsX5_columnOf := in_r _ [3, 4, 5, 6] (by decide +kernel)
  refine lv_aload_n hx hb dX5_columnOf_0 rfl (lv_at hl 0 rfl) ?_
  refine r_get CF hK hH k (by omega) (we_s G hk _) rfl JX5 1 (by decide) K1 rfl dX5_columnOf_1 ?_
  refine lv_iload_n hx hb dX5_columnOf_4 rfl (lv_at hl 1 rfl) ?_
  refine lv_aload_n hx hb dX5_columnOf_5 rfl (lv_at hl 0 rfl) ?_
  refine r_get CF hK hH k (by omega) (we_s G hk _) rfl JX5 3 (by decide) K2 rfl dX5_columnOf_6 ?_
  refine lv_imul hx hb dX5_columnOf_9 ?_
  refine lv_iadd hx hb dX5_columnOf_10 ?_
  exact r_iret CF hr hlk hH hS dX5_columnOf_11 ⟨by rw [hv.2.1, hv.2.2.2.1, pk_mul, nI_add], rfl⟩

set_option maxRecDepth 100000 in
set_option maxHeartbeats 4000000 in
theorem c_X5_entryColumn (l : Launch) (G : Gm) (σ : Sg) (k : Nat) (hk : k < 16) (q : S4) (hv : VS σ k q) (e : Bool) : Met l yX5_entryColumn wsX5_entryColumn (rmO 0 0) (PP G [.ref (G.2.1 k), .int (b2i e)] σ) (QI G (RV (nI (if e then q.2.1 else q.2.2.1)) σ)) 0 0 (fr G) := by
  refine r_start (cc := cX5_entryColumn) (maxL := 2) (ret := (some .int)) (by decide) rfl (Nat.le_of_ble_eq_true rfl) ?_
  intro pz ez sz mz below meth cz ls CF hr hlk hK hH hS hl
  have CF : CallFix pz mz cz cX5_entryColumn 2 sz (List.toArray [.ref (G.2.1 k), .int (b2i e)]) wsX5_entryColumn RX5 := CF
  have hx := CF.1
  have hb := CF.2.1
  have hown := CF.2.2.2.1
  have hts := CF.2.2.2.2
  have hl : lv_has ls 2 [(0, .ref (G.2.1 k)), (1, .int (b2i e))] := hl
  have K1 := hts _ (List.mem_of_getElem? (i := 1) rfl)
  have K2 := hts _ (List.mem_of_getElem? (i := 2) rfl)
  have JX5 : ∀ w ∈ wsX50, w ∈ wsX5_entryColumn := in_r _ [3, 4, 5, 6] (by decide +kernel)
  refine lv_iload_n hx hb dX5_entryColumn_0 rfl (lv_at hl 1 rfl) ?_
  refine r_ifeqB (tgt := 11) hx hb dX5_entryColumn_1 (by decide) (fun c1 => ?_) (fun c1 => ?_)
  · refine lv_aload_n hx hb dX5_entryColumn_11 rfl (lv_at hl 0 rfl) ?_
    refine r_get CF hK hH k (by omega) (we_s G hk _) rfl JX5 2 (by decide) K2 rfl dX5_entryColumn_12 ?_
    exact r_iret CF hr hlk hH hS dX5_entryColumn_15 ⟨by simp [c1]; first | exact hv.2.1 | exact hv.2.2.1, rfl⟩
  · refine lv_aload_n hx hb dX5_entryColumn_4 rfl (lv_at hl 0 rfl) ?_
    refine r_get CF hK hH k (by omega) (we_s G hk _) rfl JX5 1 (by decide) K1 rfl dX5_entryColumn_5 ?_
    refine lv_goto (tgt := 15) hx hb dX5_entryColumn_8 (by decide) ?_
    exact r_iret CF hr hlk hH hS dX5_entryColumn_15 ⟨by simp [c1]; first | exact hv.2.1 | exact hv.2.2.1, rfl⟩

set_option maxRecDepth 100000 in
set_option maxHeartbeats 4000000 in
theorem c_X5_exitColumn (l : Launch) (G : Gm) (σ : Sg) (k : Nat) (hk : k < 16) (q : S4) (hv : VS σ k q) (e : Bool) : Met l yX5_exitColumn wsX5_exitColumn (rmO 0 0) (PP G [.ref (G.2.1 k), .int (b2i e)] σ) (QI G (RV (nI (if e then q.2.2.1 else q.2.1)) σ)) 0 0 (fr G) := by
  refine r_start (cc := cX5_exitColumn) (maxL := 2) (ret := (some .int)) (by decide) rfl (Nat.le_of_ble_eq_true rfl) ?_
  intro pz ez sz mz below meth cz ls CF hr hlk hK hH hS hl
  have CF : CallFix pz mz cz cX5_exitColumn 2 sz (List.toArray [.ref (G.2.1 k), .int (b2i e)]) wsX5_exitColumn RX5 := CF
  have hx := CF.1
  have hb := CF.2.1
  have hown := CF.2.2.2.1
  have hts := CF.2.2.2.2
  have hl : lv_has ls 2 [(0, .ref (G.2.1 k)), (1, .int (b2i e))] := hl
  have K1 := hts _ (List.mem_of_getElem? (i := 1) rfl)
  have K2 := hts _ (List.mem_of_getElem? (i := 2) rfl)
  have JX5 : ∀ w ∈ wsX50, w ∈ wsX5_exitColumn := in_r _ [3, 4, 5, 6] (by decide +kernel)
  refine lv_iload_n hx hb dX5_exitColumn_0 rfl (lv_at hl 1 rfl) ?_
  refine r_ifeqB (tgt := 11) hx hb dX5_exitColumn_1 (by decide) (fun c1 => ?_) (fun c1 => ?_)
  · refine lv_aload_n hx hb dX5_exitColumn_11 rfl (lv_at hl 0 rfl) ?_
    refine r_get CF hK hH k (by omega) (we_s G hk _) rfl JX5 1 (by decide) K2 rfl dX5_exitColumn_12 ?_
    exact r_iret CF hr hlk hH hS dX5_exitColumn_15 ⟨by simp [c1]; first | exact hv.2.1 | exact hv.2.2.1, rfl⟩
  · refine lv_aload_n hx hb dX5_exitColumn_4 rfl (lv_at hl 0 rfl) ?_
    refine r_get CF hK hH k (by omega) (we_s G hk _) rfl JX5 2 (by decide) K1 rfl dX5_exitColumn_5 ?_
    refine lv_goto (tgt := 15) hx hb dX5_exitColumn_8 (by decide) ?_
    exact r_iret CF hr hlk hH hS dX5_exitColumn_15 ⟨by simp [c1]; first | exact hv.2.1 | exact hv.2.2.1, rfl⟩

set_option maxRecDepth 100000 in
set_option maxHeartbeats 4000000 in
theorem c_X5_sees (l : Launch) (G : Gm) (σ : Sg) (k : Nat) (hk : k < 16) (q : S4) (hv : VS σ k q) (r c : Nat) (h3 : r < 10) (h4 : c < 16) (hh : hB (σ 22) (σ 23 0)) : Met l yX5_sees wsX5_sees (rmO 3 84) (PP G [.ref (G.2.1 k), .ref (G.2.1 21), .ref (G.2.1 23), .int (nI r), .int (nI c)] σ) (QI G (RV (b2i (ssF (σ 22) (cmC σ) q r c)) σ)) 0 0 (fr G) := by
  refine r_start (cc := cX5_sees) (maxL := 7) (ret := (some .boolean)) (by decide) rfl (Nat.le_of_ble_eq_true rfl) ?_
  intro pz ez sz mz below meth cz ls CF hr hlk hK hH hS hl
  have CF : CallFix pz mz cz cX5_sees 7 sz (List.toArray [.ref (G.2.1 k), .ref (G.2.1 21), .ref (G.2.1 23), .int (nI r), .int (nI c)]) wsX5_sees RX5 := CF
  have hx := CF.1
  have hb := CF.2.1
  have hown := CF.2.2.2.1
  have hts := CF.2.2.2.2
  have hl : lv_has ls 7 [(0, .ref (G.2.1 k)), (1, .ref (G.2.1 21)), (2, .ref (G.2.1 23)), (3, .int (nI r)), (4, .int (nI c))] := hl
  have K1 := hts _ (List.mem_of_getElem? (i := 1) rfl)
  have JX5 : ∀ w ∈ wsX50, w ∈ wsX5_sees := in_r _ [47, 48, 49, 50] (by decide +kernel)
  have hp := phF_le hv.2.2.2.2
  have hq := hv.2.2.2.2
  refine lv_aload_n hx hb dX5_sees_0 rfl (lv_at hl 0 rfl) ?_
  refine r_cR hS (r_runV (n := 0) (As := []) (rest := []) CF hK hH (c_X5_photos l G σ k hk q hv) gX5_sees_X5_photos rfl rfl rfl rfl (by decide +kernel) ⟨⟨Nat.le_of_ble_eq_true rfl, Nat.le_of_ble_eq_true rfl⟩, Nat.le_of_ble_eq_true rfl, Nat.le_of_ble_eq_true rfl⟩ k rfl (by omega) (we_s G hk _) rfl rfl hl.1 rfl (Nat.le_of_ble_eq_true rfl) dX5_sees_1) (fun H locs hH hS => ?_)
  refine lv_istore (lv' := [(5, .int (nI (phF q))), (0, .ref (G.2.1 k)), (1, .ref (G.2.1 21)), (2, .ref (G.2.1 23)), (3, .int (nI r)), (4, .int (nI c))]) hx hb dX5_sees_4 hl (by decide) rfl (fun ls hl => ?_)
  refine lv_iconst (v := 0) hx hb dX5_sees_6 (by decide) ?_
  refine lv_istore (lv' := [(6, .int (0 : Int32)), (5, .int (nI (phF q))), (0, .ref (G.2.1 k)), (1, .ref (G.2.1 21)), (2, .ref (G.2.1 23)), (3, .int (nI r)), (4, .int (nI c))]) hx hb dX5_sees_7 hl (by decide) rfl (fun ls hl => ?_)
  have lp9 : ∀ (fu : Nat) (i : Nat) (H : Heap) (locs : List Loc) (ls : Array Slot), (phF q + 1 ≤ i + fu) → (i ≤ phF q) → (cnt (fun p => psF (σ 22) (cmC σ) q p r c) i = 0) → Hp G σ H → va_S (fr G) sz.heap H locs → lv_has ls 7 [(0, .ref (G.2.1 k)), (1, .ref (G.2.1 21)), (2, .ref (G.2.1 23)), (3, .int (nI r)), (4, .int (nI c)), (5, .int (nI (phF q))), (6, .int (nI i))] → W pz l ez (rmO 3 84) sz mz (List.toArray [.ref (G.2.1 k), .ref (G.2.1 21), .ref (G.2.1 23), .int (nI r), .int (nI c)]) below meth cz H locs 0 0 (MQ below (QI G (RV (b2i (ssF (σ 22) (cmC σ) q r c)) σ)) (List.toArray [.ref (G.2.1 k), .ref (G.2.1 21), .ref (G.2.1 23), .int (nI r), .int (nI c)]) sz 0 0 (fr G)) (F0 mz 9 ls []) := by
    intro fu
    induction fu with
    | zero => intros; omega
    | succ fu ih9 =>
      intro i H locs ls hf hi hz hH hS hl
      refine lv_iload hx hb dX5_sees_9 (lv_at hl 6 rfl) ?_
      refine lv_iload hx hb dX5_sees_11 (lv_at hl 5 rfl) ?_
      refine lv_icmp_ge (tgt := 45) hx hb dX5_sees_13 (by decide) (fun c13 => ?_) (fun c13 => ?_)
      · have c13 : (phF q) ≤ i := (nI_leI (a := (phF q)) (b := i) (by omega) (by omega)).mp c13
        refine lv_iconst (v := 0) hx hb dX5_sees_45 (by decide) ?_
        exact r_zret CF hr hlk hH hS rfl dX5_sees_46 ⟨by have e : i = phF q := (by omega); subst e; simp [ssF, b2i, hz], rfl⟩
      · have c13 : i < (phF q) := Nat.lt_of_not_le (fun zq => c13 ((nI_leI (a := (phF q)) (b := i) (by omega) (by omega)).mpr zq))
        have hcol := ph_col hv.2.2.2.2 c13
        refine lv_aload_n hx hb dX5_sees_16 rfl (lv_at hl 2 rfl) ?_
        refine lv_aload_n hx hb dX5_sees_17 rfl (lv_at hl 1 rfl) ?_
        refine lv_aload_n hx hb dX5_sees_18 rfl (lv_at hl 0 rfl) ?_
        refine r_get CF hK hH k (by omega) (we_s G hk _) rfl JX5 0 (by decide) K1 rfl dX5_sees_19 ?_
        refine r_top (show (σ k 0 : Int32) = nI q.1 from hv.1) ?_
        refine lv_aload_n hx hb dX5_sees_22 rfl (lv_at hl 0 rfl) ?_
        refine lv_iload hx hb dX5_sees_23 (lv_at hl 6 rfl) ?_
        refine r_cR hS (r_runV (n := 1) (As := [.int (nI i)]) (rest := [.int (nI q.1), .ref (G.2.1 21), .ref (G.2.1 23)]) CF hK hH (c_X5_columnOf l G σ k hk q hv i) gX5_sees_X5_columnOf rfl rfl rfl rfl (by decide +kernel) ⟨⟨Nat.le_of_ble_eq_true rfl, Nat.le_of_ble_eq_true rfl⟩, Nat.le_of_ble_eq_true rfl, Nat.le_of_ble_eq_true rfl⟩ k rfl (by omega) (we_s G hk _) rfl rfl hl.1 rfl (Nat.le_of_ble_eq_true rfl) dX5_sees_25) (fun H locs hH hS => ?_)
        refine lv_iload_n hx hb dX5_sees_28 rfl (lv_at hl 3 rfl) ?_
        refine lv_iload hx hb dX5_sees_29 (lv_at hl 4 rfl) ?_
        refine r_cR hS (r_runV (n := 5) (As := [.ref (G.2.1 21), .int (nI q.1), .int (nI (q.2.1 + i * q.2.2.2)), .int (nI r), .int (nI c)]) (rest := []) CF hK hH (c_X1_sees l G σ q.1 (q.2.1 + i * q.2.2.2) r c hq.1 (by have := hq.2.2.1; omega) h3 h4 hh) gX5_sees_X1_sees rfl rfl rfl rfl (by decide +kernel) ⟨⟨Nat.le_of_ble_eq_true rfl, Nat.le_of_ble_eq_true rfl⟩, Nat.le_of_ble_eq_true rfl, Nat.le_of_ble_eq_true rfl⟩ 23 rfl (Nat.le_of_ble_eq_true rfl) rfl rfl rfl hl.1 rfl (Nat.le_of_ble_eq_true rfl) dX5_sees_31) (fun H locs hH hS => ?_)
        refine r_ifeqB (tgt := 39) hx hb dX5_sees_34 (by decide) (fun c34 => ?_) (fun c34 => ?_)
        · refine lv_iinc (v := nI (i + 1)) (lv' := [(6, .int (nI (i + 1))), (0, .ref (G.2.1 k)), (1, .ref (G.2.1 21)), (2, .ref (G.2.1 23)), (3, .int (nI r)), (4, .int (nI c)), (5, .int (nI (phF q)))]) hx hb dX5_sees_39 hl (k := 6) rfl (nI_1 _) (by decide) rfl (fun ls hl => ?_)
          refine lv_goto (tgt := 9) hx hb dX5_sees_42 (by decide) ?_
          exact ih9 (i + 1) _ _ ls (by omega) (by omega) (by rw [cnt_f (p := fun p => psF (σ 22) (cmC σ) q p r c) c34, hz]) hH hS (lv_sub hl [1, 2, 3, 4, 5, 6, 0] rfl)
        · refine lv_iconst (v := 1) hx hb dX5_sees_37 (by decide) ?_
          exact r_zret CF hr hlk hH hS rfl dX5_sees_38 ⟨by have := cnt_pos (p := fun p => psF (σ 22) (cmC σ) q p r c) (i := i) c34 c13; simp [ssF, b2i, this], rfl⟩
  exact lp9 (phF q + 1) 0 _ _ ls (by omega) (by omega) rfl hH hS (lv_sub hl [2, 3, 4, 5, 6, 1, 0] rfl)

set_option maxRecDepth 100000 in
set_option maxHeartbeats 4000000 in
theorem c_X6_clear (l : Launch) (G : Gm) (σ : Sg) (b : Nat) (hb2 : b < 2) : Met l yX6_clear wsX6_clear (rmO 0 0) (PP G [.ref (G.2.1 (16 + b))] σ) (QV G (VV (u2 σ (16 + b) 0 0))) 0 0 (fr G) := by
  refine r_start (cc := cX6_clear) (maxL := 1) (ret := none) (by decide) rfl (Nat.le_of_ble_eq_true rfl) ?_
  intro pz ez sz mz below meth cz ls CF hr hlk hK hH hS hl
  have CF : CallFix pz mz cz cX6_clear 1 sz (List.toArray [.ref (G.2.1 (16 + b))]) wsX6_clear RX6 := CF
  have hx := CF.1
  have hb := CF.2.1
  have hown := CF.2.2.2.1
  have hts := CF.2.2.2.2
  have hl : lv_has ls 1 [(0, .ref (G.2.1 (16 + b)))] := hl
  have K1 := hts _ (List.mem_of_getElem? (i := 1) rfl)
  have JX6 : ∀ w ∈ wsX60, w ∈ wsX6_clear := in_r _ [2, 3] (by decide +kernel)
  refine lv_aload_n hx hb dX6_clear_0 rfl (lv_at hl 0 rfl) ?_
  refine lv_iconst (v := 0) hx hb dX6_clear_1 (by decide) ?_
  refine r_put CF hK hH hS (16 + b) (by omega) (we_l G hb2 _) rfl JX6 tyX6 tyX6_ok nmX6 0 (by decide) K1 rfl (by decide +kernel) (Nat.le_of_ble_eq_true rfl) (by rw [we_l G hb2]; rfl) dX6_clear_2 (fun H locs hH hS => ?_)
  exact r_vret CF hr hlk hH hS dX6_clear_5 rfl

def fdP (G : Gm) (σ : Sg) (b n : Nat) (x : Int32) : Option Nat → Sg → Prop := fun o σ' => σ' = σ ∧ (((x < 0 ∨ nI n ≤ x) ∧ o = none) ∨ ∃ j : Nat, j < n ∧ x = nI j ∧ o = some (G.2.1 (8 * b + j)))

theorem i32_tr {x y z : Int32} (h1 : x ≤ y) (h2 : y ≤ z) : x ≤ z := by grind
theorem no_find {a n : Nat} (h : a < n) (hn : n < 2 ^ 31) : ¬ (nI a < 0 ∨ nI n ≤ nI a) := by
  rintro (q | q)
  · exact nI_pos (by omega) q
  · exact absurd ((nI_leI hn (by omega)).mp q) (by omega)

set_option maxRecDepth 100000 in
set_option maxHeartbeats 4000000 in
theorem c_X6_slot (l : Launch) (G : Gm) (σ : Sg) (b : Nat) (hb2 : b < 2) (x : Int32) : Met l yX6_slot wsX6_slot (rmO 0 0) (PP G [.ref (G.2.1 (16 + b)), .int x] σ) (QO G (fdP G σ b 8 x)) 0 0 (fr G) := by
  refine r_start (cc := cX6_slot) (maxL := 2) (ret := (some (.object "AerialSurvey$Strip"))) (by decide) rfl (Nat.le_of_ble_eq_true rfl) ?_
  intro pz ez sz mz below meth cz ls CF hr hlk hK hH hS hl
  have CF : CallFix pz mz cz cX6_slot 2 sz (List.toArray [.ref (G.2.1 (16 + b)), .int x]) wsX6_slot RX6 := CF
  have hx := CF.1
  have hb := CF.2.1
  have hown := CF.2.2.2.1
  have hts := CF.2.2.2.2
  have hl : lv_has ls 2 [(0, .ref (G.2.1 (16 + b))), (1, .int x)] := hl
  have K1 := hts _ (List.mem_of_getElem? (i := 1) rfl)
  have JX6 : ∀ w ∈ wsX60, w ∈ wsX6_slot := in_r _ [2, 3] (by decide +kernel)
  refine lv_iload_n hx hb dX6_slot_0 rfl (lv_at hl 1 rfl) ?_
  refine lv_if_lt (tgt := 22) hx hb dX6_slot_1 (by decide) (fun c1 => ?_) (fun c1 => ?_)
  · refine lv_null hx hb dX6_slot_22 ?_
    exact r_aret CF hr hlk hH hS none rfl dX6_slot_23 ⟨rfl, Or.inl ⟨Or.inl c1, rfl⟩⟩
  · refine lv_iload_n hx hb dX6_slot_4 rfl (lv_at hl 1 rfl) ?_
    refine lv_aload_n hx hb dX6_slot_5 rfl (lv_at hl 0 rfl) ?_
    refine r_get CF hK hH (16 + b) (by omega) (we_l G hb2 _) rfl JX6 1 (by decide) K1 rfl dX6_slot_6 ?_
    refine r_alen (v := 8) CF hK hH (18 + b) (by omega) (we_a G hb2 _) 2 rfl rfl dX6_slot_9 ?_
    refine lv_icmp_ge (tgt := 22) hx hb dX6_slot_10 (by decide) (fun c10 => ?_) (fun c10 => ?_)
    · refine lv_null hx hb dX6_slot_22 ?_
      exact r_aret CF hr hlk hH hS none rfl dX6_slot_23 ⟨rfl, Or.inl ⟨Or.inr c10, rfl⟩⟩
    · obtain ⟨j, hj, hij⟩ := ((pk_ix x (n := 8) (by omega)).resolve_left c1).resolve_left c10
      refine lv_aload_n hx hb dX6_slot_13 rfl (lv_at hl 0 rfl) ?_
      refine r_get CF hK hH (16 + b) (by omega) (we_l G hb2 _) rfl JX6 1 (by decide) K1 rfl dX6_slot_14 ?_
      refine lv_iload_n hx hb dX6_slot_17 rfl (lv_at hl 1 rfl) ?_
      refine r_aald CF hK hH hb2 j hij (by omega) dX6_slot_18 ?_
      refine lv_goto (tgt := 23) hx hb dX6_slot_19 (by decide) ?_
      exact r_aret CF hr hlk hH hS (some (G.2.1 (8 * b + j))) rfl dX6_slot_23 ⟨rfl, Or.inr ⟨j, hj, hij, rfl⟩⟩

set_option maxRecDepth 100000 in
set_option maxHeartbeats 4000000 in
theorem c_X6_find (l : Launch) (G : Gm) (σ : Sg) (b : Nat) (hb2 : b < 2) (n : Nat) (hn : σ (16 + b) 0 = nI n) (hn8 : n ≤ 8) (x : Int32) : Met l yX6_find wsX6_find (rmO 1 21) (PP G [.ref (G.2.1 (16 + b)), .int x] σ) (QO G (fdP G σ b n x)) 0 0 (fr G) := by
  refine r_start (cc := cX6_find) (maxL := 2) (ret := (some (.object "AerialSurvey$Strip"))) (by decide) rfl (Nat.le_of_ble_eq_true rfl) ?_
  intro pz ez sz mz below meth cz ls CF hr hlk hK hH hS hl
  have CF : CallFix pz mz cz cX6_find 2 sz (List.toArray [.ref (G.2.1 (16 + b)), .int x]) wsX6_find RX6 := CF
  have hx := CF.1
  have hb := CF.2.1
  have hown := CF.2.2.2.1
  have hts := CF.2.2.2.2
  have hl : lv_has ls 2 [(0, .ref (G.2.1 (16 + b))), (1, .int x)] := hl
  have K1 := hts _ (List.mem_of_getElem? (i := 1) rfl)
  have JX6 : ∀ w ∈ wsX60, w ∈ wsX6_find := in_r _ [8, 9] (by decide +kernel)
  refine lv_iload_n hx hb dX6_find_0 rfl (lv_at hl 1 rfl) ?_
  refine lv_aload_n hx hb dX6_find_1 rfl (lv_at hl 0 rfl) ?_
  refine r_get CF hK hH (16 + b) (by omega) (we_l G hb2 _) rfl JX6 0 (by decide) K1 rfl dX6_find_2 ?_
  refine r_top (show (σ (16 + b) 0 : Int32) = nI n from hn) ?_
  refine lv_icmp_ge (tgt := 16) hx hb dX6_find_5 (by decide) (fun c5 => ?_) (fun c5 => ?_)
  · refine lv_null hx hb dX6_find_16 ?_
    exact r_aret CF hr hlk hH hS none rfl dX6_find_17 ⟨rfl, Or.inl ⟨by first | exact Or.inr c5 | exact hn10.imp id (fun q => i32_tr (nI_le hn8 (by omega)) q), rfl⟩⟩
  · refine lv_aload_n hx hb dX6_find_8 rfl (lv_at hl 0 rfl) ?_
    refine lv_iload_n hx hb dX6_find_9 rfl (lv_at hl 1 rfl) ?_
    refine r_callq hS (r_runV (n := 1) (As := [.int x]) (rest := []) CF hK hH (c_X6_slot l G σ b hb2 x) gX6_find_X6_slot rfl rfl rfl rfl (by decide +kernel) ⟨⟨Nat.le_of_ble_eq_true rfl, Nat.le_of_ble_eq_true rfl⟩, Nat.le_of_ble_eq_true rfl, Nat.le_of_ble_eq_true rfl⟩ (16 + b) rfl (by omega) (we_l G hb2 _) rfl rfl hl.1 rfl (Nat.le_of_ble_eq_true rfl) dX6_find_10) (fun rq10 σq10 H locs hq hH hS => ?_)
    obtain ⟨hσ1, hq⟩ := hq
    rw [hσ1] at hH
    rcases hq with ⟨hn10, hr1⟩ | ⟨j10, hj10, hi10, hr1⟩
    · rw [hr1]
      rw [show va_rf none = Value.null from rfl]
      have hin10 := inB_f hn10
      refine lv_goto (tgt := 17) hx hb dX6_find_13 (by decide) ?_
      exact r_aret CF hr hlk hH hS none rfl dX6_find_17 ⟨rfl, Or.inl ⟨by first | exact Or.inr c5 | exact hn10.imp id (fun q => i32_tr (nI_le hn8 (by omega)) q), rfl⟩⟩
    · rw [hr1]
      rw [show va_rf (some (G.2.1 (8 * b + j10))) = Value.ref (G.2.1 (8 * b + j10)) from rfl]
      have hin10 := inB_t hj10 hi10 (by omega)
      have hN10 := N_of hi10 (by omega)
      refine lv_goto (tgt := 17) hx hb dX6_find_13 (by decide) ?_
      exact r_aret CF hr hlk hH hS (some (G.2.1 (8 * b + j10))) rfl dX6_find_17 ⟨rfl, Or.inr ⟨j10, Nat.lt_of_not_le (fun zq => c5 (by rw [hi10]; exact nI_le zq (by omega))), hi10, rfl⟩⟩

def addF (σ : Sg) (b n : Nat) (a c d e : Int32) : Sg := u2 (u2 (u2 (u2 (u2 σ (8 * b + n) 0 a) (8 * b + n) 1 c) (8 * b + n) 2 d) (8 * b + n) 3 e) (16 + b) 0 (nI (n + 1))
theorem add_cnt (σ : Sg) {b n : Nat} (hb2 : b < 2) (hn : n < 8) (a c d e : Int32) : u2 (u2 (u2 (u2 σ (8 * b + n) 0 a) (8 * b + n) 1 c) (8 * b + n) 2 d) (8 * b + n) 3 e (16 + b) 0 = σ (16 + b) 0 := by
  have h : 16 + b ≠ 8 * b + n := by omega
  rw [u2_n _ _ _ h, u2_n _ _ _ h, u2_n _ _ _ h, u2_n _ _ _ h]

set_option maxRecDepth 100000 in
set_option maxHeartbeats 4000000 in
theorem c_X6_add (l : Launch) (G : Gm) (σ : Sg) (b : Nat) (hb2 : b < 2) (n : Nat) (hn : σ (16 + b) 0 = nI n) (hn8 : n ≤ 8) (x y z w : Int32) : Met l yX6_add wsX6_add (rmO 1 24) (PP G [.ref (G.2.1 (16 + b)), .int x, .int y, .int z, .int w] σ) (QI G (fun r σ' => if n = 8 then r = -5 ∧ σ' = σ else r = nI n ∧ σ' = addF σ b n x y z w)) 0 0 (fr G) := by
  refine r_start (cc := cX6_add) (maxL := 6) (ret := (some .int)) (by decide) rfl (Nat.le_of_ble_eq_true rfl) ?_
  intro pz ez sz mz below meth cz ls CF hr hlk hK hH hS hl
  have CF : CallFix pz mz cz cX6_add 6 sz (List.toArray [.ref (G.2.1 (16 + b)), .int x, .int y, .int z, .int w]) wsX6_add RX6 := CF
  have hx := CF.1
  have hb := CF.2.1
  have hown := CF.2.2.2.1
  have hts := CF.2.2.2.2
  have hl : lv_has ls 6 [(0, .ref (G.2.1 (16 + b))), (1, .int x), (2, .int y), (3, .int z), (4, .int w)] := hl
  have K1 := hts _ (List.mem_of_getElem? (i := 1) rfl)
  have JX6 : ∀ w ∈ wsX60, w ∈ wsX6_add := in_r _ [17, 18] (by decide +kernel)
  refine lv_aload_n hx hb dX6_add_0 rfl (lv_at hl 0 rfl) ?_
  refine lv_aload_n hx hb dX6_add_1 rfl (lv_at hl 0 rfl) ?_
  refine r_get CF hK hH (16 + b) (by omega) (we_l G hb2 _) rfl JX6 0 (by decide) K1 rfl dX6_add_2 ?_
  refine r_top (show (σ (16 + b) 0 : Int32) = nI n from hn) ?_
  refine r_callq hS (r_runV (n := 1) (As := [.int (nI n)]) (rest := []) CF hK hH (c_X6_slot l G σ b hb2 (nI n)) gX6_add_X6_slot rfl rfl rfl rfl (by decide +kernel) ⟨⟨Nat.le_of_ble_eq_true rfl, Nat.le_of_ble_eq_true rfl⟩, Nat.le_of_ble_eq_true rfl, Nat.le_of_ble_eq_true rfl⟩ (16 + b) rfl (by omega) (we_l G hb2 _) rfl rfl hl.1 rfl (Nat.le_of_ble_eq_true rfl) dX6_add_5) (fun rq5 σq5 H locs hq hH hS => ?_)
  obtain ⟨hσ1, hq⟩ := hq
  rw [hσ1] at hH
  rcases hq with ⟨hn5, hr1⟩ | ⟨j5, hj5, hi5, hr1⟩
  · rw [hr1]
    rw [show va_rf none = Value.null from rfl]
    have hin5 := inB_f hn5
    have e8 : n = 8 := hn5.elim (fun q => absurd q (nI_pos (by omega))) (fun q => by have := (nI_leI (a := 8) (b := n) (by omega) (by omega)).mp q; omega)
    refine lv_astoreN (lv' := [(5, .null), (0, .ref (G.2.1 (16 + b))), (1, .int x), (2, .int y), (3, .int z), (4, .int w)]) hx hb dX6_add_8 hl (by decide) rfl (fun ls hl => ?_)
    refine lv_aloadN hx hb dX6_add_10 (lv_at hl 0 rfl) ?_
    refine lv_ifnonnullN hx hb dX6_add_12 ?_
    refine lv_bipush (v := (-5)) hx hb dX6_add_15 (by decide) ?_
    exact r_iret CF hr hlk hH hS dX6_add_17 (by rw [if_pos e8]; exact ⟨rfl, rfl⟩)
  · rw [hr1]
    rw [show va_rf (some (G.2.1 (8 * b + j5))) = Value.ref (G.2.1 (8 * b + j5)) from rfl]
    have hin5 := inB_t hj5 hi5 (by omega)
    have hN5 := N_of hi5 (by omega)
    have ej5 : n = j5 := (nI_eq (by omega) (by omega)).mp hi5
    subst ej5
    refine lv_astore (lv' := [(5, .ref (G.2.1 (8 * b + n))), (0, .ref (G.2.1 (16 + b))), (1, .int x), (2, .int y), (3, .int z), (4, .int w)]) hx hb dX6_add_8 hl (by decide) rfl (fun ls hl => ?_)
    refine lv_aload hx hb dX6_add_10 (lv_at hl 0 rfl) ?_
    refine lv_ifnonnull (tgt := 18) hx hb dX6_add_12 (by decide) ?_
    refine lv_aload hx hb dX6_add_18 (lv_at hl 0 rfl) ?_
    refine lv_iload_n hx hb dX6_add_20 rfl (lv_at hl 2 rfl) ?_
    refine lv_iload_n hx hb dX6_add_21 rfl (lv_at hl 3 rfl) ?_
    refine lv_iload_n hx hb dX6_add_22 rfl (lv_at hl 4 rfl) ?_
    refine lv_iload hx hb dX6_add_23 (lv_at hl 5 rfl) ?_
    refine r_cV hS (r_runV (n := 4) (As := [.int x, .int y, .int z, .int w]) (rest := []) CF hK hH (c_X5_put l G σ (8 * b + n) (by omega) x y z w) gX6_add_X5_put rfl rfl rfl rfl (by decide +kernel) ⟨⟨Nat.le_of_ble_eq_true rfl, Nat.le_of_ble_eq_true rfl⟩, Nat.le_of_ble_eq_true rfl, Nat.le_of_ble_eq_true rfl⟩ (8 * b + n) rfl (by omega) (we_s G (by omega) _) rfl rfl hl.1 rfl (Nat.le_of_ble_eq_true rfl) dX6_add_25) (fun H locs hH hS => ?_)
    refine lv_aload_n hx hb dX6_add_28 rfl (lv_at hl 1 rfl) ?_
    refine lv_dup hx hb dX6_add_29 rfl ?_
    refine r_get CF hK hH (16 + b) (by omega) (we_l G hb2 _) rfl JX6 0 (by decide) K1 rfl dX6_add_30 ?_
    refine r_top (show ((u2 (u2 (u2 (u2 σ (8 * b + n) 0 x) (8 * b + n) 1 y) (8 * b + n) 2 z) (8 * b + n) 3 w) (16 + b) 0 : Int32) = nI n from (by rw [add_cnt σ hb2 hj5]; exact hn)) ?_
    refine lv_iconst (v := 1) hx hb dX6_add_33 (by decide) ?_
    refine lv_iadd hx hb dX6_add_34 ?_
    refine r_top (show (((nI n) + (1 : Int32)) : Int32) = nI (n + 1) from nI_1 n) ?_
    refine r_put CF hK hH hS (16 + b) (by omega) (we_l G hb2 _) rfl JX6 tyX6 tyX6_ok nmX6 0 (by decide) K1 rfl (by decide +kernel) (Nat.le_of_ble_eq_true rfl) (by rw [we_l G hb2]; rfl) dX6_add_35 (fun H locs hH hS => ?_)
    refine lv_aload_n hx hb dX6_add_38 rfl (lv_at hl 1 rfl) ?_
    refine r_get CF hK hH (16 + b) (by omega) (we_l G hb2 _) rfl JX6 0 (by decide) K1 rfl dX6_add_39 ?_
    refine r_top (show ((u2 (u2 (u2 (u2 (u2 σ (8 * b + n) 0 x) (8 * b + n) 1 y) (8 * b + n) 2 z) (8 * b + n) 3 w) (16 + b) 0 (nI (n + 1))) (16 + b) 0 : Int32) = nI (n + 1) from (u2_ss _ _ _ _)) ?_
    refine lv_iconst (v := 1) hx hb dX6_add_42 (by decide) ?_
    refine lv_isub hx hb dX6_add_43 ?_
    refine r_top (show (((nI (n + 1)) - (1 : Int32)) : Int32) = nI n from (by grind [nI_1 n])) ?_
    exact r_iret CF hr hlk hH hS dX6_add_44 (by rw [if_neg (by omega)]; exact ⟨rfl, rfl⟩)
