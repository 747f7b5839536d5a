def AS (σ : Sg) (sp : S4) : Prop := σ 24 0 = nI sp.1 ∧ σ 24 2 = nI sp.2.1 ∧ σ 24 0 + σ 24 1 = nI sp.2.2.1 ∧ σ 24 0 - σ 24 1 = nI sp.2.2.2 ∧ okP sp
theorem ft_nI {σ : Sg} {k : Nat} {q sp : S4} (hv : VS σ k q) (hs : AS σ sp) (e : Bool) : quo ((σ k 2 - σ k 1) * 1000) (if e then σ 24 0 + σ 24 1 else σ 24 0 - σ 24 1) = nI (ftF sp q e) := by
  obtain ⟨h0, h1, h2, h3, h4, h5, h6, h7, h8⟩ := hv
  obtain ⟨s1, s2, s3, s4, p1, p2, p3, p4, p5, p6, p7⟩ := hs
  rw [h1, h2, pk_sub h5, show nI (q.2.2.1 - q.2.1) * 1000 = nI ((q.2.2.1 - q.2.1) * 1000) from pk_mul _ 1000, s3, s4]
  unfold ftF
  cases e
  · exact quo_nI (by omega) (show 0 < sp.2.2.2 by omega) (by omega)
  · exact quo_nI (by omega) (show 0 < sp.2.2.1 by omega) (by omega)

set_option maxRecDepth 100000 in
set_option maxHeartbeats 4000000 in
theorem c_X0_flightTime (l : Launch) (G : Gm) (σ : Sg) (k : Nat) (hk : k < 16) (q : S4) (hv : VS σ k q) (sp : S4) (hs : AS σ sp) (e : Bool) : Met l yX0_flightTime wsX0_flightTime (rmO 1 21) (PP G [.ref (G.2.1 24), .ref (G.2.1 k), .int (b2i e)] σ) (QI G (RV (nI (ftF sp q e)) σ)) 0 0 (fr G) := by
  refine r_start (cc := cX0_flightTime) (maxL := 4) (ret := (some .int)) (by decide) rfl (Nat.le_of_ble_eq_true rfl) ?_
  intro pz ez sz mz below meth cz ls CF hr hlk hK hH hS hl
  have CF : CallFix pz mz cz cX0_flightTime 4 sz (List.toArray [.ref (G.2.1 24), .ref (G.2.1 k), .int (b2i e)]) wsX0_flightTime RX0 := CF
  have hx := CF.1
  have hb := CF.2.1
  have hown := CF.2.2.2.1
  have hts := CF.2.2.2.2
  have hl : lv_has ls 4 [(0, .ref (G.2.1 24)), (1, .ref (G.2.1 k)), (2, .int (b2i e))] := hl
  have K1 := hts _ (List.mem_of_getElem? (i := 1) rfl)
  have K2 := hts _ (List.mem_of_getElem? (i := 2) rfl)
  have K3 := hts _ (List.mem_of_getElem? (i := 3) rfl)
  have K4 := hts _ (List.mem_of_getElem? (i := 4) rfl)
  have K5 := hts _ (List.mem_of_getElem? (i := 5) rfl)
  have K6 := hts _ (List.mem_of_getElem? (i := 6) rfl)
  have JX0 : ∀ w ∈ wsX00, w ∈ wsX0_flightTime := in_r _ [8, 9, 10] (by decide +kernel)
  have JX5 : ∀ w ∈ wsX50, w ∈ wsX0_flightTime := in_r _ [11, 12, 13, 14] (by decide +kernel)
  refine lv_iload_n hx hb dX0_flightTime_0 rfl (lv_at hl 2 rfl) ?_
  refine r_ifeqB (tgt := 16) hx hb dX0_flightTime_1 (by decide) (fun c1 => ?_) (fun c1 => ?_)
  · refine lv_aload_n hx hb dX0_flightTime_16 rfl (lv_at hl 0 rfl) ?_
    refine r_get CF hK hH 24 (Nat.le_of_ble_eq_true rfl) rfl rfl JX0 0 (by decide) K1 rfl dX0_flightTime_17 ?_
    refine lv_aload_n hx hb dX0_flightTime_20 rfl (lv_at hl 0 rfl) ?_
    refine r_get CF hK hH 24 (Nat.le_of_ble_eq_true rfl) rfl rfl JX0 1 (by decide) K2 rfl dX0_flightTime_21 ?_
    refine lv_isub hx hb dX0_flightTime_24 ?_
    refine lv_istore_n (lv' := [(3, .int ((σ 24 0) - (σ 24 1))), (0, .ref (G.2.1 24)), (1, .ref (G.2.1 k)), (2, .int (b2i e))]) hx hb dX0_flightTime_25 rfl hl (by decide) rfl (fun ls hl => ?_)
    refine lv_aload_n hx hb dX0_flightTime_26 rfl (lv_at hl 2 rfl) ?_
    refine r_get CF hK hH k (by omega) (we_s G hk _) rfl JX5 2 (by decide) K3 rfl dX0_flightTime_27 ?_
    refine lv_aload_n hx hb dX0_flightTime_30 rfl (lv_at hl 2 rfl) ?_
    refine r_get CF hK hH k (by omega) (we_s G hk _) rfl JX5 1 (by decide) K4 rfl dX0_flightTime_31 ?_
    refine lv_isub hx hb dX0_flightTime_34 ?_
    refine lv_sipush (v := 1000) hx hb dX0_flightTime_35 (by decide) ?_
    refine lv_imul hx hb dX0_flightTime_38 ?_
    refine lv_iload_n hx hb dX0_flightTime_39 rfl (lv_at hl 0 rfl) ?_
    refine r_cR hS (r_runN (n := 2) (As := [.int (((σ k 2) - (σ k 1)) * (1000 : Int32)), .int ((σ 24 0) - (σ 24 1))]) (rest := []) CF hK hH (c_X8_quotient l G σ (((σ k 2) - (σ k 1)) * (1000 : Int32)) ((σ 24 0) - (σ 24 1))) gX0_flightTime_X8_quotient_n27 rfl rfl rfl hK.2.2.2.2.2.2 K6 K5 (by decide +kernel) ⟨⟨Nat.le_of_ble_eq_true rfl, Nat.le_of_ble_eq_true rfl⟩, Nat.le_of_ble_eq_true rfl, Nat.le_of_ble_eq_true rfl⟩ rfl hl.1 rfl (Nat.le_of_ble_eq_true rfl) dX0_flightTime_40) (fun H locs hH hS => ?_)
    exact r_iret CF hr hlk hH hS dX0_flightTime_43 ⟨by have := ft_nI hv hs e; rw [← this]; simp [c1], rfl⟩
  · refine lv_aload_n hx hb dX0_flightTime_4 rfl (lv_at hl 0 rfl) ?_
    refine r_get CF hK hH 24 (Nat.le_of_ble_eq_true rfl) rfl rfl JX0 0 (by decide) K1 rfl dX0_flightTime_5 ?_
    refine lv_aload_n hx hb dX0_flightTime_8 rfl (lv_at hl 0 rfl) ?_
    refine r_get CF hK hH 24 (Nat.le_of_ble_eq_true rfl) rfl rfl JX0 1 (by decide) K2 rfl dX0_flightTime_9 ?_
    refine lv_iadd hx hb dX0_flightTime_12 ?_
    refine lv_goto (tgt := 25) hx hb dX0_flightTime_13 (by decide) ?_
    refine lv_istore_n (lv' := [(3, .int ((σ 24 0) + (σ 24 1))), (0, .ref (G.2.1 24)), (1, .ref (G.2.1 k)), (2, .int (b2i e))]) hx hb dX0_flightTime_25 rfl hl (by decide) rfl (fun ls hl => ?_)
    refine lv_aload_n hx hb dX0_flightTime_26 rfl (lv_at hl 2 rfl) ?_
    refine r_get CF hK hH k (by omega) (we_s G hk _) rfl JX5 2 (by decide) K3 rfl dX0_flightTime_27 ?_
    refine lv_aload_n hx hb dX0_flightTime_30 rfl (lv_at hl 2 rfl) ?_
    refine r_get CF hK hH k (by omega) (we_s G hk _) rfl JX5 1 (by decide) K4 rfl dX0_flightTime_31 ?_
    refine lv_isub hx hb dX0_flightTime_34 ?_
    refine lv_sipush (v := 1000) hx hb dX0_flightTime_35 (by decide) ?_
    refine lv_imul hx hb dX0_flightTime_38 ?_
    refine lv_iload_n hx hb dX0_flightTime_39 rfl (lv_at hl 0 rfl) ?_
    refine r_cR hS (r_runN (n := 2) (As := [.int (((σ k 2) - (σ k 1)) * (1000 : Int32)), .int ((σ 24 0) + (σ 24 1))]) (rest := []) CF hK hH (c_X8_quotient l G σ (((σ k 2) - (σ k 1)) * (1000 : Int32)) ((σ 24 0) + (σ 24 1))) gX0_flightTime_X8_quotient_n27 rfl rfl rfl hK.2.2.2.2.2.2 K6 K5 (by decide +kernel) ⟨⟨Nat.le_of_ble_eq_true rfl, Nat.le_of_ble_eq_true rfl⟩, Nat.le_of_ble_eq_true rfl, Nat.le_of_ble_eq_true rfl⟩ rfl hl.1 rfl (Nat.le_of_ble_eq_true rfl) dX0_flightTime_40) (fun H locs hH hS => ?_)
    exact r_iret CF hr hlk hH hS dX0_flightTime_43 ⟨by have := ft_nI hv hs e; rw [← this]; simp [c1], rfl⟩

set_option maxRecDepth 100000 in
set_option maxHeartbeats 4000000 in
theorem c_X0_transferTime (l : Launch) (G : Gm) (σ : Sg) (r c : Nat) (hr10 : r < 10) (hc16 : c < 16) (k : Nat) (hk : k < 16) (q : S4) (hv : VS σ k q) (sp : S4) (hs : AS σ sp) (e : Bool) : Met l yX0_transferTime wsX0_transferTime (rmO 1 21) (PP G [.ref (G.2.1 24), .int (nI r), .int (nI c), .ref (G.2.1 k), .int (b2i e)] σ) (QI G (RV (nI (trF sp r c q e)) σ)) 0 0 (fr G) := by
  refine r_start (cc := cX0_transferTime) (maxL := 6) (ret := (some .int)) (by decide) rfl (Nat.le_of_ble_eq_true rfl) ?_
  intro pz ez sz mz below meth cz ls CF hr hlk hK hH hS hl
  have CF : CallFix pz mz cz cX0_transferTime 6 sz (List.toArray [.ref (G.2.1 24), .int (nI r), .int (nI c), .ref (G.2.1 k), .int (b2i e)]) wsX0_transferTime RX0 := CF
  have hx := CF.1
  have hb := CF.2.1
  have hown := CF.2.2.2.1
  have hts := CF.2.2.2.2
  have hl : lv_has ls 6 [(0, .ref (G.2.1 24)), (1, .int (nI r)), (2, .int (nI c)), (3, .ref (G.2.1 k)), (4, .int (b2i e))] := hl
  have K1 := hts _ (List.mem_of_getElem? (i := 1) rfl)
  have K2 := hts _ (List.mem_of_getElem? (i := 2) rfl)
  have K3 := hts _ (List.mem_of_getElem? (i := 3) rfl)
  have K4 := hts _ (List.mem_of_getElem? (i := 4) rfl)
  have K5 := hts _ (List.mem_of_getElem? (i := 5) rfl)
  have K6 := hts _ (List.mem_of_getElem? (i := 6) rfl)
  have K7 := hts _ (List.mem_of_getElem? (i := 7) rfl)
  have K15 := hts _ (List.mem_of_getElem? (i := 15) rfl)
  have K16 := hts _ (List.mem_of_getElem? (i := 16) rfl)
  have JX0 : ∀ w ∈ wsX00, w ∈ wsX0_transferTime := in_r _ [22, 23, 24] (by decide +kernel)
  have JX5 : ∀ w ∈ wsX50, w ∈ wsX0_transferTime := in_r _ [18, 19, 20, 21] (by decide +kernel)
  have hen := enF_lt hv.2.2.2.2 e
  obtain ⟨s1, s2, s3, s4, p1, p2, p3, p4, p5, p6, p7⟩ := id hs
  refine lv_aload_n hx hb dX0_transferTime_0 rfl (lv_at hl 3 rfl) ?_
  refine r_get CF hK hH k (by omega) (we_s G hk _) rfl JX5 0 (by decide) K1 rfl dX0_transferTime_1 ?_
  refine r_top (show (σ k 0 : Int32) = nI q.1 from hv.1) ?_
  refine lv_iload_n hx hb dX0_transferTime_4 rfl (lv_at hl 1 rfl) ?_
  refine lv_isub hx hb dX0_transferTime_5 ?_
  refine va_mabs hx hb (by rw [CF.2.2.1]; exact hl.1.symm) hown K2 K3 K4 K5 (Nat.le_of_ble_eq_true rfl) (Nat.le_of_ble_eq_true rfl) (Nat.le_of_ble_eq_true rfl) (Nat.le_of_ble_eq_true rfl) dX0_transferTime_6 ?_
  refine r_top (show ((if 0 ≤ ((nI q.1) - (nI r)) then ((nI q.1) - (nI r)) else 0 - ((nI q.1) - (nI r))) : Int32) = nI (ad1 q.1 r) from (ab_m _).trans (ab_nI (by have := hv.2.2.2.2.1; omega) (by omega))) ?_
  refine lv_aload_n hx hb dX0_transferTime_9 rfl (lv_at hl 3 rfl) ?_
  refine lv_iload hx hb dX0_transferTime_10 (lv_at hl 4 rfl) ?_
  refine r_cR hS (r_runV (n := 1) (As := [.int (b2i e)]) (rest := [.int (nI (ad1 q.1 r))]) CF hK hH (c_X5_entryColumn l G σ k hk q hv e) gX0_transferTime_X5_entryColumn rfl rfl rfl rfl (by decide +kernel) ⟨⟨Nat.le_of_ble_eq_true rfl, Nat.le_of_ble_eq_true rfl⟩, Nat.le_of_ble_eq_true rfl, Nat.le_of_ble_eq_true rfl⟩ k rfl (by omega) (we_s G hk _) rfl rfl hl.1 rfl (Nat.le_of_ble_eq_true rfl) dX0_transferTime_12) (fun H locs hH hS => ?_)
  refine r_top (show (nI (if e then q.2.1 else q.2.2.1) : Int32) = nI (enF q e) from rfl) ?_
  refine lv_iload_n hx hb dX0_transferTime_15 rfl (lv_at hl 2 rfl) ?_
  refine lv_isub hx hb dX0_transferTime_16 ?_
  refine va_mabs hx hb (by rw [CF.2.2.1]; exact hl.1.symm) hown K2 K3 K4 K5 (Nat.le_of_ble_eq_true rfl) (Nat.le_of_ble_eq_true rfl) (Nat.le_of_ble_eq_true rfl) (Nat.le_of_ble_eq_true rfl) dX0_transferTime_17 ?_
  refine r_top (show ((if 0 ≤ ((nI (enF q e)) - (nI c)) then ((nI (enF q e)) - (nI c)) else 0 - ((nI (enF q e)) - (nI c))) : Int32) = nI (ad1 (enF q e) c) from (ab_m _).trans (ab_nI (by omega) (by omega))) ?_
  refine lv_iadd hx hb dX0_transferTime_20 ?_
  refine r_top (show (((nI (ad1 q.1 r)) + (nI (ad1 (enF q e) c))) : Int32) = nI (ad1 q.1 r + ad1 (enF q e) c) from nI_add _ _) ?_
  refine lv_istore (lv' := [(5, .int (nI (ad1 q.1 r + ad1 (enF q e) c))), (0, .ref (G.2.1 24)), (1, .int (nI r)), (2, .int (nI c)), (3, .ref (G.2.1 k)), (4, .int (b2i e))]) hx hb dX0_transferTime_21 hl (by decide) rfl (fun ls hl => ?_)
  refine lv_iload hx hb dX0_transferTime_23 (lv_at hl 0 rfl) ?_
  refine lv_sipush (v := 1000) hx hb dX0_transferTime_25 (by decide) ?_
  refine lv_imul hx hb dX0_transferTime_28 ?_
  refine r_top (show (((nI (ad1 q.1 r + ad1 (enF q e) c)) * (1000 : Int32)) : Int32) = nI ((ad1 q.1 r + ad1 (enF q e) c) * 1000) from (pk_mul _ 1000)) ?_
  refine lv_aload_n hx hb dX0_transferTime_29 rfl (lv_at hl 1 rfl) ?_
  refine r_get CF hK hH 24 (Nat.le_of_ble_eq_true rfl) rfl rfl JX0 0 (by decide) K6 rfl dX0_transferTime_30 ?_
  refine r_top (show (σ 24 0 : Int32) = nI sp.1 from s1) ?_
  refine r_cR hS (r_runN (n := 2) (As := [.int (nI ((ad1 q.1 r + ad1 (enF q e) c) * 1000)), .int (nI sp.1)]) (rest := []) CF hK hH (c_X8_quotient l G σ (nI ((ad1 q.1 r + ad1 (enF q e) c) * 1000)) (nI sp.1)) gX0_transferTime_X8_quotient_n27 rfl rfl rfl hK.2.2.2.2.2.2 K16 K15 (by decide +kernel) ⟨⟨Nat.le_of_ble_eq_true rfl, Nat.le_of_ble_eq_true rfl⟩, Nat.le_of_ble_eq_true rfl, Nat.le_of_ble_eq_true rfl⟩ rfl hl.1 rfl (Nat.le_of_ble_eq_true rfl) dX0_transferTime_33) (fun H locs hH hS => ?_)
  refine r_top (show (quo (nI ((ad1 q.1 r + ad1 (enF q e) c) * 1000)) (nI sp.1) : Int32) = nI ((ad1 q.1 r + ad1 (enF q e) c) * 1000 / sp.1) from quo_nI (by have := hv.2.2.2.2.1; unfold ad1; omega) (by omega) (by omega)) ?_
  refine lv_aload_n hx hb dX0_transferTime_36 rfl (lv_at hl 1 rfl) ?_
  refine r_get CF hK hH 24 (Nat.le_of_ble_eq_true rfl) rfl rfl JX0 2 (by decide) K7 rfl dX0_transferTime_37 ?_
  refine r_top (show (σ 24 2 : Int32) = nI sp.2.1 from s2) ?_
  refine lv_iadd hx hb dX0_transferTime_40 ?_
  exact r_iret CF hr hlk hH hS dX0_transferTime_41 ⟨nI_add _ _, rfl⟩

set_option maxRecDepth 100000 in
set_option maxHeartbeats 4000000 in
theorem c_X4_isIn (l : Launch) (G : Gm) (σ : Sg) (m i : Nat) (hm : m < 256) (hi : i < 8) : Met l yX4_isIn wsX4_isIn (rmO 0 0) (PP G [.int (nI m), .int (nI i)] σ) (QI G (RV (b2i (has m i)) σ)) 0 0 (fr G) := by
  refine r_start (cc := cX4_isIn) (maxL := 2) (ret := (some .boolean)) (by decide) rfl (Nat.le_of_ble_eq_true rfl) ?_
  intro pz ez sz mz below meth cz ls CF hr hlk hK hH hS hl
  have CF : CallFix pz mz cz cX4_isIn 2 sz (List.toArray [.int (nI m), .int (nI i)]) wsX4_isIn RX4 := CF
  have hx := CF.1
  have hb := CF.2.1
  have hown := CF.2.2.2.1
  have hts := CF.2.2.2.2
  have hl : lv_has ls 2 [(0, .int (nI m)), (1, .int (nI i))] := hl
  refine lv_iload_n hx hb dX4_isIn_0 rfl (lv_at hl 0 rfl) ?_
  refine lv_iload_n hx hb dX4_isIn_1 rfl (lv_at hl 1 rfl) ?_
  refine lv_ishr hx hb dX4_isIn_2 ?_
  refine lv_iconst (v := 1) hx hb dX4_isIn_3 (by decide) ?_
  refine lv_iand hx hb dX4_isIn_4 ?_
  refine r_top (show ((((nI m) >>> ((nI i) &&& 31)) &&& (1 : Int32)) : Int32) = nI (m / 2 ^ i % 2) from has_nI8 m hm i hi) ?_
  refine lv_iconst (v := 1) hx hb dX4_isIn_5 (by decide) ?_
  refine lv_icmp_ne (tgt := 13) hx hb dX4_isIn_6 (by decide) (fun c6 => ?_) (fun c6 => ?_)
  · have c6 : ¬ m / 2 ^ i % 2 = 1 := fun zq => c6 (by rw [zq]; rfl)
    refine lv_iconst (v := 0) hx hb dX4_isIn_13 (by decide) ?_
    exact r_zret CF hr hlk hH hS rfl dX4_isIn_14 ⟨by simp [has, b2i, c6], rfl⟩
  · have c6 : m / 2 ^ i % 2 = 1 := (nI_eq (b := 1) (by omega) (by omega)).mp c6
    refine lv_iconst (v := 1) hx hb dX4_isIn_9 (by decide) ?_
    refine lv_goto (tgt := 14) hx hb dX4_isIn_10 (by decide) ?_
    exact r_zret CF hr hlk hH hS rfl dX4_isIn_14 ⟨by simp [has, b2i, c6], rfl⟩

set_option maxRecDepth 100000 in
set_option maxHeartbeats 4000000 in
theorem c_X4_isEastbound (l : Launch) (G : Gm) (σ : Sg) (m : Nat) (hm : m < 2 ^ 31) : Met l yX4_isEastbound wsX4_isEastbound (rmO 0 0) (PP G [.int (nI m)] σ) (QI G (RV (b2i (ea m)) σ)) 0 0 (fr G) := by
  refine r_start (cc := cX4_isEastbound) (maxL := 1) (ret := (some .boolean)) (by decide) rfl (Nat.le_of_ble_eq_true rfl) ?_
  intro pz ez sz mz below meth cz ls CF hr hlk hK hH hS hl
  have CF : CallFix pz mz cz cX4_isEastbound 1 sz (List.toArray [.int (nI m)]) wsX4_isEastbound RX4 := CF
  have hx := CF.1
  have hb := CF.2.1
  have hown := CF.2.2.2.1
  have hts := CF.2.2.2.2
  have hl : lv_has ls 1 [(0, .int (nI m))] := hl
  refine lv_iload_n hx hb dX4_isEastbound_0 rfl (lv_at hl 0 rfl) ?_
  refine lv_iconst (v := 2) hx hb dX4_isEastbound_1 (by decide) ?_
  refine lv_irem hx hb dX4_isEastbound_2 (by decide) ?_
  refine r_top (show (((nI m) - (nI m) / (2 : Int32) * (2 : Int32)) : Int32) = nI (m % 2) from (pk_rem (d := 2) hm (by omega) (by omega))) ?_
  refine lv_if_ne (tgt := 10) hx hb dX4_isEastbound_3 (by decide) (fun c3 => ?_) (fun c3 => ?_)
  · have c3 : ¬ m % 2 = 0 := fun zq => c3 (by rw [zq]; rfl)
    refine lv_iconst (v := 0) hx hb dX4_isEastbound_10 (by decide) ?_
    exact r_zret CF hr hlk hH hS rfl dX4_isEastbound_11 ⟨by simp [ea, b2i, c3], rfl⟩
  · have c3 : m % 2 = 0 := (nI_eq (b := 0) (by omega) (by omega)).mp c3
    refine lv_iconst (v := 1) hx hb dX4_isEastbound_6 (by decide) ?_
    refine lv_goto (tgt := 11) hx hb dX4_isEastbound_7 (by decide) ?_
    exact r_zret CF hr hlk hH hS rfl dX4_isEastbound_11 ⟨by simp [ea, b2i, c3], rfl⟩

def chS (σ : Sg) (o : Option (Nat × Nat)) : Sg := u2 (u2 σ 27 1 (stO o)) 27 2 (nI (tmO o))
theorem chS_n (σ : Sg) (o : Option (Nat × Nat)) {k : Nat} (h : k ≠ 27) : chS σ o k = σ k := by unfold chS; rw [u2_n _ _ _ h, u2_n _ _ _ h]
theorem chS_2 (σ : Sg) (o : Option (Nat × Nat)) (x y : Int32) : u2 (u2 (chS σ o) 27 1 x) 27 2 y = u2 (u2 σ 27 1 x) 27 2 y := by
  funext k f
  by_cases hk : k = 27
  · subst hk
    by_cases h1 : f = 1
    · subst h1; rfl
    by_cases h2 : f = 2
    · subst h2; rfl
    unfold chS
    rw [u2_sn _ _ _ h2, u2_sn _ _ _ h1, u2_sn _ _ _ h2, u2_sn _ _ _ h1, u2_sn _ _ _ h2, u2_sn _ _ _ h1]
  · rw [u2_n _ _ _ hk, u2_n _ _ _ hk, chS_n _ _ hk, u2_n _ _ _ hk, u2_n _ _ _ hk]
theorem VS_ch {σ : Sg} {k : Nat} {q : S4} {o : Option (Nat × Nat)} (h : VS σ k q) (hk : k < 16) : VS (chS σ o) k q := by
  unfold VS at *
  rw [chS_n _ _ (by omega)]
  exact h
theorem half_nI {k : Nat} (h : k < 2 ^ 31) : nI k / 2 = nI (k / 2) := pk_div (d := 2) h (by omega) (by omega)

set_option maxRecDepth 100000 in
set_option maxHeartbeats 4000000 in
theorem c_X4_timeLeftAt (l : Launch) (G : Gm) (σ : Sg) (m k : Nat) (h1 : 16 * m + k < 4096) : Met l yX4_timeLeftAt wsX4_timeLeftAt (rmO 0 0) (PP G [.ref (G.2.1 27), .int (nI m), .int (nI k)] σ) (QI G (RV (σ 28 (16 * m + k)) σ)) 0 0 (fr G) := by
  refine r_start (cc := cX4_timeLeftAt) (maxL := 4) (ret := (some .int)) (by decide) rfl (Nat.le_of_ble_eq_true rfl) ?_
  intro pz ez sz mz below meth cz ls CF hr hlk hK hH hS hl
  have CF : CallFix pz mz cz cX4_timeLeftAt 4 sz (List.toArray [.ref (G.2.1 27), .int (nI m), .int (nI k)]) wsX4_timeLeftAt RX4 := CF
  have hx := CF.1
  have hb := CF.2.1
  have hown := CF.2.2.2.1
  have hts := CF.2.2.2.2
  have hl : lv_has ls 4 [(0, .ref (G.2.1 27)), (1, .int (nI m)), (2, .int (nI k))] := hl
  have K1 := hts _ (List.mem_of_getElem? (i := 1) rfl)
  have JX4 : ∀ w ∈ wsX40, w ∈ wsX4_timeLeftAt := in_r _ [2, 3, 4] (by decide +kernel)
  refine lv_iload_n hx hb dX4_timeLeftAt_0 rfl (lv_at hl 1 rfl) ?_
  refine lv_bipush (v := 16) hx hb dX4_timeLeftAt_1 (by decide) ?_
  refine lv_imul hx hb dX4_timeLeftAt_3 ?_
  refine lv_iload_n hx hb dX4_timeLeftAt_4 rfl (lv_at hl 2 rfl) ?_
  refine lv_iadd hx hb dX4_timeLeftAt_5 ?_
  refine r_top (show ((((nI m) * (16 : Int32)) + (nI k)) : Int32) = nI (16 * m + k) from ix16 m k) ?_
  refine lv_istore_n (lv' := [(3, .int (nI (16 * m + k))), (0, .ref (G.2.1 27)), (1, .int (nI m)), (2, .int (nI k))]) hx hb dX4_timeLeftAt_6 rfl hl (by decide) rfl (fun ls hl => ?_)
  refine lv_iload_n hx hb dX4_timeLeftAt_7 rfl (lv_at hl 0 rfl) ?_
  refine lv_if_lt (tgt := 29) hx hb dX4_timeLeftAt_8 (by decide) (fun c8 => ?_) (fun c8 => ?_)
  · exact absurd c8 (nI_pos (by omega))
  · refine lv_iload_n hx hb dX4_timeLeftAt_11 rfl (lv_at hl 0 rfl) ?_
    refine lv_aload_n hx hb dX4_timeLeftAt_12 rfl (lv_at hl 1 rfl) ?_
    refine r_get CF hK hH 27 (Nat.le_of_ble_eq_true rfl) rfl rfl JX4 0 (by decide) K1 rfl dX4_timeLeftAt_13 ?_
    refine r_alen (v := 4096) CF hK hH 28 (Nat.le_of_ble_eq_true rfl) rfl 0 rfl rfl dX4_timeLeftAt_16 ?_
    refine lv_icmp_ge (tgt := 29) hx hb dX4_timeLeftAt_17 (by decide) (fun c17 => ?_) (fun c17 => ?_)
    · exact absurd c17 (nI_ge (b := 4096) (by omega) (by omega))
    · refine lv_aload_n hx hb dX4_timeLeftAt_20 rfl (lv_at hl 1 rfl) ?_
      refine r_get CF hK hH 27 (Nat.le_of_ble_eq_true rfl) rfl rfl JX4 0 (by decide) K1 rfl dX4_timeLeftAt_21 ?_
      refine lv_iload_n hx hb dX4_timeLeftAt_24 rfl (lv_at hl 0 rfl) ?_
      refine r_iald CF hK hH 28 (Nat.le_of_ble_eq_true rfl) rfl (Nat.le_of_ble_eq_true rfl) (16 * m + k) rfl (by omega) dX4_timeLeftAt_25 ?_
      refine lv_goto (tgt := 30) hx hb dX4_timeLeftAt_26 (by decide) ?_
      exact r_iret CF hr hlk hH hS dX4_timeLeftAt_30 ⟨rfl, rfl⟩

set_option maxRecDepth 100000 in
set_option maxHeartbeats 4000000 in
theorem c_X4_putTimeLeft (l : Launch) (G : Gm) (σ : Sg) (m k : Nat) (v : Int32) (h1 : 16 * m + k < 4096) : Met l yX4_putTimeLeft wsX4_putTimeLeft (rmO 0 0) (PP G [.ref (G.2.1 27), .int (nI m), .int (nI k), .int v] σ) (QV G (VV (u2 σ 28 (16 * m + k) v))) 0 0 (fr G) := by
  refine r_start (cc := cX4_putTimeLeft) (maxL := 5) (ret := none) (by decide) rfl (Nat.le_of_ble_eq_true rfl) ?_
  intro pz ez sz mz below meth cz ls CF hr hlk hK hH hS hl
  have CF : CallFix pz mz cz cX4_putTimeLeft 5 sz (List.toArray [.ref (G.2.1 27), .int (nI m), .int (nI k), .int v]) wsX4_putTimeLeft RX4 := CF
  have hx := CF.1
  have hb := CF.2.1
  have hown := CF.2.2.2.1
  have hts := CF.2.2.2.2
  have hl : lv_has ls 5 [(0, .ref (G.2.1 27)), (1, .int (nI m)), (2, .int (nI k)), (3, .int v)] := hl
  have K1 := hts _ (List.mem_of_getElem? (i := 1) rfl)
  have JX4 : ∀ w ∈ wsX40, w ∈ wsX4_putTimeLeft := in_r _ [2, 3, 4] (by decide +kernel)
  refine lv_iload_n hx hb dX4_putTimeLeft_0 rfl (lv_at hl 1 rfl) ?_
  refine lv_bipush (v := 16) hx hb dX4_putTimeLeft_1 (by decide) ?_
  refine lv_imul hx hb dX4_putTimeLeft_3 ?_
  refine lv_iload_n hx hb dX4_putTimeLeft_4 rfl (lv_at hl 2 rfl) ?_
  refine lv_iadd hx hb dX4_putTimeLeft_5 ?_
  refine r_top (show ((((nI m) * (16 : Int32)) + (nI k)) : Int32) = nI (16 * m + k) from ix16 m k) ?_
  refine lv_istore (lv' := [(4, .int (nI (16 * m + k))), (0, .ref (G.2.1 27)), (1, .int (nI m)), (2, .int (nI k)), (3, .int v)]) hx hb dX4_putTimeLeft_6 hl (by decide) rfl (fun ls hl => ?_)
  refine lv_iload hx hb dX4_putTimeLeft_8 (lv_at hl 0 rfl) ?_
  refine lv_if_lt (tgt := 31) hx hb dX4_putTimeLeft_10 (by decide) (fun c10 => ?_) (fun c10 => ?_)
  · exact absurd c10 (nI_pos (by omega))
  · refine lv_iload hx hb dX4_putTimeLeft_13 (lv_at hl 0 rfl) ?_
    refine lv_aload_n hx hb dX4_putTimeLeft_15 rfl (lv_at hl 1 rfl) ?_
    refine r_get CF hK hH 27 (Nat.le_of_ble_eq_true rfl) rfl rfl JX4 0 (by decide) K1 rfl dX4_putTimeLeft_16 ?_
    refine r_alen (v := 4096) CF hK hH 28 (Nat.le_of_ble_eq_true rfl) rfl 0 rfl rfl dX4_putTimeLeft_19 ?_
    refine lv_icmp_ge (tgt := 31) hx hb dX4_putTimeLeft_20 (by decide) (fun c20 => ?_) (fun c20 => ?_)
    · exact absurd c20 (nI_ge (b := 4096) (by omega) (by omega))
    · refine lv_aload_n hx hb dX4_putTimeLeft_23 rfl (lv_at hl 1 rfl) ?_
      refine r_get CF hK hH 27 (Nat.le_of_ble_eq_true rfl) rfl rfl JX4 0 (by decide) K1 rfl dX4_putTimeLeft_24 ?_
      refine lv_iload hx hb dX4_putTimeLeft_27 (lv_at hl 0 rfl) ?_
      refine lv_iload_n hx hb dX4_putTimeLeft_29 rfl (lv_at hl 4 rfl) ?_
      refine r_iast CF hK hH hS 28 (Nat.le_of_ble_eq_true rfl) (fun _ => rfl) (Nat.le_of_ble_eq_true rfl) (16 * m + k) rfl (by omega) dX4_putTimeLeft_30 (fun H locs hH hS => ?_)
      exact r_vret CF hr hlk hH hS dX4_putTimeLeft_31 rfl

theorem tm_lt {f : Nat → Nat} {m k n B : Nat} (hfb : ∀ l, l < 2 * n → has m (l / 2) = true → f l < B) (hk : k ≤ 2 * n) (hB : 0 < B := by decide) : tmO (lsF f m k) < B := by
  cases ho : lsF f m k with
  | none => exact hB
  | some a =>
    obtain ⟨a1, a2, a3, -, -⟩ := lsF_some ho
    show a.2 < B
    rw [a3]
    exact hfb a.1 (by omega) a2

set_option maxRecDepth 100000 in
set_option maxHeartbeats 4000000 in
theorem c_X4_choose (l : Launch) (G : Gm) (σ : Sg) (n : Nat) (sq : Nat → S4) (hL : LSt σ 0 n sq) (sp : S4) (hs : AS σ sp) (m r c : Nat) (hm : m < 2 ^ n) (hr10 : r < 10) (hc16 : c < 16) (f : Nat → Nat) (hf : ∀ l, l < 2 * n → has m (l / 2) = true → ∃ t, σ 28 (16 * rmv m (l / 2) + l) = nI t ∧ f l = stF sp r c (sq (l / 2)) (ea l) + t) (hfb : ∀ l, l < 2 * n → has m (l / 2) = true → f l < 2 ^ 30) : Met l yX4_choose wsX4_choose (rmO 2 46) (PP G [.ref (G.2.1 27), .ref (G.2.1 (16 + 0)), .ref (G.2.1 24), .int (nI m), .int (nI r), .int (nI c)] σ) (QV G (VV (chS σ (lsF f m (2 * n))))) 0 0 (fr G) := by
  refine r_start (cc := cX4_choose) (maxL := 11) (ret := none) (by decide) rfl (Nat.le_of_ble_eq_true rfl) ?_
  intro pz ez sz mz below meth cz ls CF hr hlk hK hH hS hl
  have CF : CallFix pz mz cz cX4_choose 11 sz (List.toArray [.ref (G.2.1 27), .ref (G.2.1 (16 + 0)), .ref (G.2.1 24), .int (nI m), .int (nI r), .int (nI c)]) wsX4_choose RX4 := CF
  have hx := CF.1
  have hb := CF.2.1
  have hown := CF.2.2.2.1
  have hts := CF.2.2.2.2
  have hl : lv_has ls 11 [(0, .ref (G.2.1 27)), (1, .ref (G.2.1 (16 + 0))), (2, .ref (G.2.1 24)), (3, .int (nI m)), (4, .int (nI r)), (5, .int (nI c))] := hl
  have K1 := hts _ (List.mem_of_getElem? (i := 1) rfl)
  have K2 := hts _ (List.mem_of_getElem? (i := 2) rfl)
  have K3 := hts _ (List.mem_of_getElem? (i := 3) rfl)
  have JX4 : ∀ w ∈ wsX40, w ∈ wsX4_choose := in_r _ [56, 57, 58] (by decide +kernel)
  have JX6 : ∀ w ∈ wsX60, w ∈ wsX4_choose := in_r _ [59, 60] (by decide +kernel)
  have hn : σ (16 + 0) 0 = nI n := hL.1
  have hn8 := hL.2.1
  have h8 := pow_le8 hn8
  refine lv_aload_n hx hb dX4_choose_0 rfl (lv_at hl 0 rfl) ?_
  refine lv_bipush (v := (-6)) hx hb dX4_choose_1 (by decide) ?_
  refine r_put CF hK hH hS 27 (Nat.le_of_ble_eq_true rfl) rfl rfl JX4 tyX4 tyX4_ok nmX4 1 (by decide) K1 rfl (by decide +kernel) (Nat.le_of_ble_eq_true rfl) rfl dX4_choose_3 (fun H locs hH hS => ?_)
  refine lv_aload_n hx hb dX4_choose_6 rfl (lv_at hl 0 rfl) ?_
  refine lv_iconst (v := 0) hx hb dX4_choose_7 (by decide) ?_
  refine r_put CF hK hH hS 27 (Nat.le_of_ble_eq_true rfl) rfl rfl JX4 tyX4 tyX4_ok nmX4 2 (by decide) K2 rfl (by decide +kernel) (Nat.le_of_ble_eq_true rfl) rfl dX4_choose_8 (fun H locs hH hS => ?_)
  refine lv_iconst (v := 0) hx hb dX4_choose_11 (by decide) ?_
  refine lv_istore (lv' := [(6, .int (0 : Int32)), (0, .ref (G.2.1 27)), (1, .ref (G.2.1 (16 + 0))), (2, .ref (G.2.1 24)), (3, .int (nI m)), (4, .int (nI r)), (5, .int (nI c))]) hx hb dX4_choose_12 hl (by decide) rfl (fun ls hl => ?_)
  have lp14 : ∀ (fu : Nat) (k : Nat) (σ1 : Sg) (H : Heap) (locs : List Loc) (ls : Array Slot), (2 * n + 1 ≤ k + fu) → (k ≤ 2 * n) → (σ1 = chS σ (lsF f m k)) → Hp G σ1 H → va_S (fr G) sz.heap H locs → lv_has ls 11 [(0, .ref (G.2.1 27)), (1, .ref (G.2.1 (16 + 0))), (2, .ref (G.2.1 24)), (3, .int (nI m)), (4, .int (nI r)), (5, .int (nI c)), (6, .int (nI k))] → W pz l ez (rmO 2 46) sz mz (List.toArray [.ref (G.2.1 27), .ref (G.2.1 (16 + 0)), .ref (G.2.1 24), .int (nI m), .int (nI r), .int (nI c)]) below meth cz H locs 0 0 (MQ below (QV G (VV (chS σ (lsF f m (2 * n))))) (List.toArray [.ref (G.2.1 27), .ref (G.2.1 (16 + 0)), .ref (G.2.1 24), .int (nI m), .int (nI r), .int (nI c)]) sz 0 0 (fr G)) (F0 mz 14 ls []) := by
    intro fu
    induction fu with
    | zero => intros; omega
    | succ fu ih14 =>
      intro k σ1 H locs ls hfu hk hσ hH hS hl
      refine lv_iload hx hb dX4_choose_14 (lv_at hl 6 rfl) ?_
      refine lv_iconst (v := 2) hx hb dX4_choose_16 (by decide) ?_
      refine lv_aload_n hx hb dX4_choose_17 rfl (lv_at hl 1 rfl) ?_
      refine r_get CF hK hH (16 + 0) (by omega) (we_l G (by decide) _) rfl JX6 0 (by decide) K3 rfl dX4_choose_18 ?_
      refine r_top (show (σ1 (16 + 0) 0 : Int32) = nI n from (by rw [hσ]; exact hn)) ?_
      refine lv_imul hx hb dX4_choose_21 ?_
      refine r_top (show (((2 : Int32) * (nI n)) : Int32) = nI (2 * n) from (pk_mul 2 n)) ?_
      refine lv_icmp_ge (tgt := 138) hx hb dX4_choose_22 (by decide) (fun c22 => ?_) (fun c22 => ?_)
      · have c22 : (2 * n) ≤ k := (nI_leI (a := (2 * n)) (b := k) (by omega) (by omega)).mp c22
        exact r_vret CF hr hlk hH hS dX4_choose_138 (by have e : k = 2 * n := (by omega); rw [hσ, e])
      · have c22 : k < (2 * n) := Nat.lt_of_not_le (fun zq => c22 ((nI_leI (a := (2 * n)) (b := k) (by omega) (by omega)).mpr zq))
        refine lv_aload_n hx hb dX4_choose_25 rfl (lv_at hl 1 rfl) ?_
        refine lv_iload hx hb dX4_choose_26 (lv_at hl 6 rfl) ?_
        refine lv_iconst (v := 2) hx hb dX4_choose_28 (by decide) ?_
        refine lv_idiv hx hb dX4_choose_29 (by decide) ?_
        refine r_top (show (((nI k) / (2 : Int32)) : Int32) = nI (k / 2) from half_nI (by omega)) ?_
        refine r_callq hS (r_runV (n := 1) (As := [.int (nI (k / 2))]) (rest := []) CF hK hH (c_X6_find l G σ1 0 (by decide) n (by rw [hσ]; exact hn) hn8 (nI (k / 2))) gX4_choose_X6_find rfl rfl rfl rfl (by decide +kernel) ⟨⟨Nat.le_of_ble_eq_true rfl, Nat.le_of_ble_eq_true rfl⟩, Nat.le_of_ble_eq_true rfl, Nat.le_of_ble_eq_true rfl⟩ (16 + 0) rfl (by omega) (we_l G (by decide) _) rfl rfl hl.1 rfl (Nat.le_of_ble_eq_true rfl) dX4_choose_30) (fun rq30 σq30 H locs hq hH hS => ?_)
        obtain ⟨hσ1, hq⟩ := hq
        rw [hσ1] at hH
        rcases hq with ⟨hn30, hr1⟩ | ⟨j30, hj30, hi30, hr1⟩
        · rw [hr1]
          rw [show va_rf none = Value.null from rfl]
          have hin30 := inB_f hn30
          exact absurd hn30 (no_find (by omega) (by omega))
        · rw [hr1]
          rw [show va_rf (some (G.2.1 (8 * 0 + j30))) = Value.ref (G.2.1 (8 * 0 + j30)) from rfl]
          have hin30 := inB_t hj30 hi30 (by omega)
          have hN30 := N_of hi30 (by omega)
          have ej30 : k / 2 = j30 := (nI_eq (by omega) (by omega)).mp hi30
          refine lv_astore (lv' := [(7, .ref (G.2.1 (8 * 0 + j30))), (0, .ref (G.2.1 27)), (1, .ref (G.2.1 (16 + 0))), (2, .ref (G.2.1 24)), (3, .int (nI m)), (4, .int (nI r)), (5, .int (nI c)), (6, .int (nI k))]) hx hb dX4_choose_33 hl (by decide) rfl (fun ls hl => ?_)
          refine lv_aload hx hb dX4_choose_35 (lv_at hl 0 rfl) ?_
          refine lv_ifnull hx hb dX4_choose_37 ?_
          refine lv_iload_n hx hb dX4_choose_40 rfl (lv_at hl 4 rfl) ?_
          refine lv_iload hx hb dX4_choose_41 (lv_at hl 7 rfl) ?_
          refine lv_iconst (v := 2) hx hb dX4_choose_43 (by decide) ?_
          refine lv_idiv hx hb dX4_choose_44 (by decide) ?_
          refine r_top (show (((nI k) / (2 : Int32)) : Int32) = nI (k / 2) from half_nI (by omega)) ?_
          refine r_cR hS (r_runS (n := 2) (As := [.int (nI m), .int (nI (k / 2))]) (rest := []) CF hK hH (c_X4_isIn l G σ1 m (k / 2) (by omega) (by omega)) gX4_choose_X4_isIn rfl rfl rfl (by decide +kernel) ⟨⟨Nat.le_of_ble_eq_true rfl, Nat.le_of_ble_eq_true rfl⟩, Nat.le_of_ble_eq_true rfl, Nat.le_of_ble_eq_true rfl⟩ rfl hl.1 rfl (Nat.le_of_ble_eq_true rfl) dX4_choose_45) (fun H locs hH hS => ?_)
          refine r_ifeqB (tgt := 132) hx hb dX4_choose_48 (by decide) (fun c48 => ?_) (fun c48 => ?_)
          · refine lv_iinc (v := nI (k + 1)) (lv' := [(6, .int (nI (k + 1))), (7, .ref (G.2.1 (8 * 0 + j30))), (0, .ref (G.2.1 27)), (1, .ref (G.2.1 (16 + 0))), (2, .ref (G.2.1 24)), (3, .int (nI m)), (4, .int (nI r)), (5, .int (nI c))]) hx hb dX4_choose_132 hl (k := 7) rfl (nI_1 _) (by decide) rfl (fun ls hl => ?_)
            refine lv_goto (tgt := 14) hx hb dX4_choose_135 (by decide) ?_
            exact ih14 (k + 1) σ1 _ _ ls (by omega) (by omega) (by rw [hσ, ls_n c48]) hH hS (lv_sub hl [2, 3, 4, 5, 6, 7, 0] rfl)
          · obtain ⟨t, ht1, ht2⟩ := hf k c22 c48
            have hfk := hfb k c22 c48
            have hrl := rmv_le m (k / 2)
            have htm : tmO (lsF f m k) < 2 ^ 30 := tm_lt hfb (by omega)
            refine lv_iload hx hb dX4_choose_51 (lv_at hl 7 rfl) ?_
            refine r_cR hS (r_runS (n := 1) (As := [.int (nI k)]) (rest := []) CF hK hH (c_X4_isEastbound l G σ1 k (by omega)) gX4_choose_X4_isEastbound rfl rfl rfl (by decide +kernel) ⟨⟨Nat.le_of_ble_eq_true rfl, Nat.le_of_ble_eq_true rfl⟩, Nat.le_of_ble_eq_true rfl, Nat.le_of_ble_eq_true rfl⟩ rfl hl.1 rfl (Nat.le_of_ble_eq_true rfl) dX4_choose_53) (fun H locs hH hS => ?_)
            refine lv_istore (lv' := [(8, .int (b2i (ea k))), (7, .ref (G.2.1 (8 * 0 + j30))), (0, .ref (G.2.1 27)), (1, .ref (G.2.1 (16 + 0))), (2, .ref (G.2.1 24)), (3, .int (nI m)), (4, .int (nI r)), (5, .int (nI c)), (6, .int (nI k))]) hx hb dX4_choose_56 hl (by decide) rfl (fun ls hl => ?_)
            refine lv_iload_n hx hb dX4_choose_58 rfl (lv_at hl 5 rfl) ?_
            refine lv_iconst (v := 1) hx hb dX4_choose_59 (by decide) ?_
            refine lv_iload hx hb dX4_choose_60 (lv_at hl 8 rfl) ?_
            refine lv_iconst (v := 2) hx hb dX4_choose_62 (by decide) ?_
            refine lv_idiv hx hb dX4_choose_63 (by decide) ?_
            refine r_top (show (((nI k) / (2 : Int32)) : Int32) = nI (k / 2) from half_nI (by omega)) ?_
            refine lv_ishl hx hb dX4_choose_64 ?_
            refine lv_iconst (v := (-1)) hx hb dX4_choose_65 (by decide) ?_
            refine lv_ixor hx hb dX4_choose_66 ?_
            refine lv_iand hx hb dX4_choose_67 ?_
            refine r_top (show (((nI m) &&& (((1 : Int32) <<< ((nI (k / 2)) &&& 31)) ^^^ (-1 : Int32))) : Int32) = nI (rmv m (k / 2)) from rmv_nI8 m (by omega) (k / 2) (by omega)) ?_
            refine lv_istore (lv' := [(9, .int (nI (rmv m (k / 2)))), (8, .int (b2i (ea k))), (7, .ref (G.2.1 (8 * 0 + j30))), (0, .ref (G.2.1 27)), (1, .ref (G.2.1 (16 + 0))), (2, .ref (G.2.1 24)), (3, .int (nI m)), (4, .int (nI r)), (5, .int (nI c)), (6, .int (nI k))]) hx hb dX4_choose_68 hl (by decide) rfl (fun ls hl => ?_)
            refine lv_aload_n hx hb dX4_choose_70 rfl (lv_at hl 5 rfl) ?_
            refine lv_iload hx hb dX4_choose_71 (lv_at hl 7 rfl) ?_
            refine lv_iload hx hb dX4_choose_73 (lv_at hl 8 rfl) ?_
            refine lv_aload hx hb dX4_choose_75 (lv_at hl 2 rfl) ?_
            refine lv_iload hx hb dX4_choose_77 (lv_at hl 1 rfl) ?_
            refine r_cR hS (r_runV (n := 4) (As := [.int (nI r), .int (nI c), .ref (G.2.1 (8 * 0 + j30)), .int (b2i (ea k))]) (rest := []) CF hK hH (c_X0_transferTime l G σ1 r c (by omega) (by omega) (8 * 0 + j30) (by omega) (sq j30) (by rw [hσ]; exact VS_ch (hL.2.2 j30 (by omega)) (by omega)) sp (by rw [hσ]; exact hs) (ea k)) gX4_choose_X0_transferTime rfl rfl rfl rfl (by decide +kernel) ⟨⟨Nat.le_of_ble_eq_true rfl, Nat.le_of_ble_eq_true rfl⟩, Nat.le_of_ble_eq_true rfl, Nat.le_of_ble_eq_true rfl⟩ 24 rfl (Nat.le_of_ble_eq_true rfl) rfl rfl rfl hl.1 rfl (Nat.le_of_ble_eq_true rfl) dX4_choose_79) (fun H locs hH hS => ?_)
            refine lv_aload_n hx hb dX4_choose_82 rfl (lv_at hl 5 rfl) ?_
            refine lv_aload hx hb dX4_choose_83 (lv_at hl 2 rfl) ?_
            refine lv_iload hx hb dX4_choose_85 (lv_at hl 1 rfl) ?_
            refine r_cR hS (r_runV (n := 2) (As := [.ref (G.2.1 (8 * 0 + j30)), .int (b2i (ea k))]) (rest := [.int (nI (trF sp r c (sq j30) (ea k)))]) CF hK hH (c_X0_flightTime l G σ1 (8 * 0 + j30) (by omega) (sq j30) (by rw [hσ]; exact VS_ch (hL.2.2 j30 (by omega)) (by omega)) sp (by rw [hσ]; exact hs) (ea k)) gX4_choose_X0_flightTime rfl rfl rfl rfl (by decide +kernel) ⟨⟨Nat.le_of_ble_eq_true rfl, Nat.le_of_ble_eq_true rfl⟩, Nat.le_of_ble_eq_true rfl, Nat.le_of_ble_eq_true rfl⟩ 24 rfl (Nat.le_of_ble_eq_true rfl) rfl rfl rfl hl.1 rfl (Nat.le_of_ble_eq_true rfl) dX4_choose_87) (fun H locs hH hS => ?_)
            refine lv_iadd hx hb dX4_choose_90 ?_
            refine r_top (show (((nI (trF sp r c (sq j30) (ea k))) + (nI (ftF sp (sq j30) (ea k)))) : Int32) = nI (stF sp r c (sq j30) (ea k)) from nI_add _ _) ?_
            refine lv_aload_n hx hb dX4_choose_91 rfl (lv_at hl 3 rfl) ?_
            refine lv_iload hx hb dX4_choose_92 (lv_at hl 0 rfl) ?_
            refine lv_iload hx hb dX4_choose_94 (lv_at hl 9 rfl) ?_
            refine r_cR hS (r_runV (n := 2) (As := [.int (nI (rmv m (k / 2))), .int (nI k)]) (rest := [.int (nI (stF sp r c (sq j30) (ea k)))]) CF hK hH (c_X4_timeLeftAt l G σ1 (rmv m (k / 2)) k (by omega)) gX4_choose_X4_timeLeftAt rfl rfl rfl rfl (by decide +kernel) ⟨⟨Nat.le_of_ble_eq_true rfl, Nat.le_of_ble_eq_true rfl⟩, Nat.le_of_ble_eq_true rfl, Nat.le_of_ble_eq_true rfl⟩ 27 rfl (Nat.le_of_ble_eq_true rfl) rfl rfl rfl hl.1 rfl (Nat.le_of_ble_eq_true rfl) dX4_choose_96) (fun H locs hH hS => ?_)
            refine r_top (show (σ1 28 (16 * (rmv m (k / 2)) + k) : Int32) = nI t from (by rw [hσ]; exact ht1)) ?_
            refine lv_iadd hx hb dX4_choose_99 ?_
            refine r_top (show (((nI (stF sp r c (sq j30) (ea k))) + (nI t)) : Int32) = nI (f k) from (by rw [ht2, nI_add, ej30])) ?_
            refine lv_istore (lv' := [(10, .int (nI (f k))), (9, .int (nI (rmv m (k / 2)))), (8, .int (b2i (ea k))), (7, .ref (G.2.1 (8 * 0 + j30))), (0, .ref (G.2.1 27)), (1, .ref (G.2.1 (16 + 0))), (2, .ref (G.2.1 24)), (3, .int (nI m)), (4, .int (nI r)), (5, .int (nI c)), (6, .int (nI k))]) hx hb dX4_choose_100 hl (by decide) rfl (fun ls hl => ?_)
            refine lv_aload_n hx hb dX4_choose_102 rfl (lv_at hl 4 rfl) ?_
            refine r_get CF hK hH 27 (Nat.le_of_ble_eq_true rfl) rfl rfl JX4 1 (by decide) K1 rfl dX4_choose_103 ?_
            refine r_top (show (σ1 27 1 : Int32) = stO (lsF f m k) from (by rw [hσ]; rfl)) ?_
            refine lv_bipush (v := (-6)) hx hb dX4_choose_106 (by decide) ?_
            refine lv_icmp_eq (tgt := 120) hx hb dX4_choose_108 (by decide) (fun c108 => ?_) (fun c108 => ?_)
            · refine lv_aload_n hx hb dX4_choose_120 rfl (lv_at hl 4 rfl) ?_
              refine lv_iload hx hb dX4_choose_121 (lv_at hl 10 rfl) ?_
              refine r_put CF hK hH hS 27 (Nat.le_of_ble_eq_true rfl) rfl rfl JX4 tyX4 tyX4_ok nmX4 1 (by decide) K1 rfl (by decide +kernel) (Nat.le_of_ble_eq_true rfl) rfl dX4_choose_123 (fun H locs hH hS => ?_)
              refine lv_aload_n hx hb dX4_choose_126 rfl (lv_at hl 4 rfl) ?_
              refine lv_iload hx hb dX4_choose_127 (lv_at hl 0 rfl) ?_
              refine r_put CF hK hH hS 27 (Nat.le_of_ble_eq_true rfl) rfl rfl JX4 tyX4 tyX4_ok nmX4 2 (by decide) K2 rfl (by decide +kernel) (Nat.le_of_ble_eq_true rfl) rfl dX4_choose_129 (fun H locs hH hS => ?_)
              refine lv_iinc (v := nI (k + 1)) (lv' := [(6, .int (nI (k + 1))), (10, .int (nI (f k))), (9, .int (nI (rmv m (k / 2)))), (8, .int (b2i (ea k))), (7, .ref (G.2.1 (8 * 0 + j30))), (0, .ref (G.2.1 27)), (1, .ref (G.2.1 (16 + 0))), (2, .ref (G.2.1 24)), (3, .int (nI m)), (4, .int (nI r)), (5, .int (nI c))]) hx hb dX4_choose_132 hl (k := 10) rfl (nI_1 _) (by decide) rfl (fun ls hl => ?_)
              refine lv_goto (tgt := 14) hx hb dX4_choose_135 (by decide) ?_
              exact ih14 (k + 1) (u2 (u2 σ1 27 1 (nI k)) 27 2 (nI (f k))) _ _ ls (by omega) (by omega) (by rw [hσ, chS_2, ls_new c48 (by omega) c108]; rfl) hH hS (lv_sub hl [5, 6, 7, 8, 9, 10, 0] rfl)
            · refine lv_iload hx hb dX4_choose_111 (lv_at hl 0 rfl) ?_
              refine lv_aload_n hx hb dX4_choose_113 rfl (lv_at hl 4 rfl) ?_
              refine r_get CF hK hH 27 (Nat.le_of_ble_eq_true rfl) rfl rfl JX4 2 (by decide) K2 rfl dX4_choose_114 ?_
              refine r_top (show (σ1 27 2 : Int32) = nI (tmO (lsF f m k)) from (by rw [hσ]; rfl)) ?_
              refine lv_icmp_ge (tgt := 132) hx hb dX4_choose_117 (by decide) (fun c117 => ?_) (fun c117 => ?_)
              · have c117 : ¬ f k < tmO (lsF f m k) := fun zq => absurd ((nI_leI (by omega) (by omega)).mp c117) (by omega)
                refine lv_iinc (v := nI (k + 1)) (lv' := [(6, .int (nI (k + 1))), (10, .int (nI (f k))), (9, .int (nI (rmv m (k / 2)))), (8, .int (b2i (ea k))), (7, .ref (G.2.1 (8 * 0 + j30))), (0, .ref (G.2.1 27)), (1, .ref (G.2.1 (16 + 0))), (2, .ref (G.2.1 24)), (3, .int (nI m)), (4, .int (nI r)), (5, .int (nI c))]) hx hb dX4_choose_132 hl (k := 10) rfl (nI_1 _) (by decide) rfl (fun ls hl => ?_)
                refine lv_goto (tgt := 14) hx hb dX4_choose_135 (by decide) ?_
                exact ih14 (k + 1) σ1 _ _ ls (by omega) (by omega) (by rw [hσ, ls_ge c48 c108 c117]) hH hS (lv_sub hl [5, 6, 7, 8, 9, 10, 0] rfl)
              · have c117 : f k < tmO (lsF f m k) := Nat.lt_of_not_le (fun zq => c117 (nI_le zq (by omega)))
                refine lv_aload_n hx hb dX4_choose_120 rfl (lv_at hl 4 rfl) ?_
                refine lv_iload hx hb dX4_choose_121 (lv_at hl 10 rfl) ?_
                refine r_put CF hK hH hS 27 (Nat.le_of_ble_eq_true rfl) rfl rfl JX4 tyX4 tyX4_ok nmX4 1 (by decide) K1 rfl (by decide +kernel) (Nat.le_of_ble_eq_true rfl) rfl dX4_choose_123 (fun H locs hH hS => ?_)
                refine lv_aload_n hx hb dX4_choose_126 rfl (lv_at hl 4 rfl) ?_
                refine lv_iload hx hb dX4_choose_127 (lv_at hl 0 rfl) ?_
                refine r_put CF hK hH hS 27 (Nat.le_of_ble_eq_true rfl) rfl rfl JX4 tyX4 tyX4_ok nmX4 2 (by decide) K2 rfl (by decide +kernel) (Nat.le_of_ble_eq_true rfl) rfl dX4_choose_129 (fun H locs hH hS => ?_)
                refine lv_iinc (v := nI (k + 1)) (lv' := [(6, .int (nI (k + 1))), (10, .int (nI (f k))), (9, .int (nI (rmv m (k / 2)))), (8, .int (b2i (ea k))), (7, .ref (G.2.1 (8 * 0 + j30))), (0, .ref (G.2.1 27)), (1, .ref (G.2.1 (16 + 0))), (2, .ref (G.2.1 24)), (3, .int (nI m)), (4, .int (nI r)), (5, .int (nI c))]) hx hb dX4_choose_132 hl (k := 10) rfl (nI_1 _) (by decide) rfl (fun ls hl => ?_)
                refine lv_goto (tgt := 14) hx hb dX4_choose_135 (by decide) ?_
                exact ih14 (k + 1) (u2 (u2 σ1 27 1 (nI k)) 27 2 (nI (f k))) _ _ ls (by omega) (by omega) (by rw [hσ, chS_2, ls_lt c48 c108 c117]; rfl) hH hS (lv_sub hl [5, 6, 7, 8, 9, 10, 0] rfl)
  exact lp14 (2 * n + 1) 0 (u2 (u2 σ 27 1 (-6 : Int32)) 27 2 (0 : Int32)) _ _ ls (by omega) (by omega) rfl hH hS (lv_sub hl [1, 2, 3, 4, 5, 6, 0] rfl)
