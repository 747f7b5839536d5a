/-! ===== the reference's plans ===== -/
def SFr (σ σ1 : Sg) : Prop := ∀ k, k ≠ 35 → σ1 k = σ k
def SI (T : Nat → Int32) (g : Nat → Int32) (cm : Cm) (C N i j : Nat) : Prop := ∀ f z, z < N → (f < i ∨ (f = i ∧ z < j)) → T (160 * f + z) = b2i (seesF g cm (f / C) (f % C) (z / C) (z % C))
theorem SI.next {T : Nat → Int32} {g : Nat → Int32} {cm : Cm} {C N i j : Nat} (hN : N ≤ 160) (hj : j < N) (h : SI T g cm C N i j) : SI (va_up T (160 * i + j) (b2i (seesF g cm (i / C) (i % C) (j / C) (j % C)))) g cm C N i (j + 1) := by
  intro f z hz ho
  by_cases e : 160 * f + z = 160 * i + j
  · have e1 : f = i := by omega
    have e2 : z = j := by omega
    subst e1; subst e2
    exact up_s _ _ _
  · rw [up_n _ _ e]
    refine h f z hz ?_
    rcases ho with ho | ⟨ho, ho2⟩
    · exact Or.inl ho
    · refine Or.inr ⟨ho, ?_⟩
      subst ho
      omega
theorem SI.row {T : Nat → Int32} {g : Nat → Int32} {cm : Cm} {C N i j : Nat} (hj : N ≤ j) (h : SI T g cm C N i j) : SI T g cm C N (i + 1) 0 := by
  intro f z hz ho
  refine h f z hz ?_
  rcases ho with ho | ⟨ho, ho2⟩
  · by_cases e : f = i
    · exact Or.inr ⟨e, by omega⟩
    · exact Or.inl (by omega)
  · omega
theorem SFr.cm {σ σ1 : Sg} (h : SFr σ σ1) : cmM σ1 = cmM σ := by unfold cmM; rw [h 29 (by omega)]

set_option maxRecDepth 100000 in
set_option maxHeartbeats 4000000 in
theorem c_X9_layOutVisibility (l : Launch) (G : Gm) (σ : Sg) (R C : Nat) (hR : σ 29 0 = nI R) (hC : σ 29 1 = nI C) (hR3 : 3 ≤ R) (hR10 : R ≤ 10) (hC4 : 4 ≤ C) (hC16 : C ≤ 16) : Met l yX9_layOutVisibility wsX9_layOutVisibility (rmO 3 80) (PP G [.ref (G.2.1 29)] σ) (QV G (fun σ' => SFr σ σ' ∧ SI (σ' 35) (σ 30) (cmM σ) C (R * C) (R * C) (0))) 0 0 (fr G) := by
  refine r_start (cc := cX9_layOutVisibility) (maxL := 4) (ret := none) (by decide) rfl (Nat.le_of_ble_eq_true rfl) ?_
  intro pz ez sz mz below meth cz ls CF hr hlk hK hH hS hl
  have CF : CallFix pz mz cz cX9_layOutVisibility 4 sz (List.toArray [.ref (G.2.1 29)]) wsX9_layOutVisibility RX9 := CF
  have hx := CF.1
  have hb := CF.2.1
  have hown := CF.2.2.2.1
  have hts := CF.2.2.2.2
  have hl : lv_has ls 4 [(0, .ref (G.2.1 29))] := hl
  have K1 := hts _ (List.mem_of_getElem? (i := 1) rfl)
  have K2 := hts _ (List.mem_of_getElem? (i := 2) rfl)
  have K3 := hts _ (List.mem_of_getElem? (i := 3) rfl)
  have JX9 : ∀ w ∈ wsX90, w ∈ wsX9_layOutVisibility := in_r _ [24, 25, 26, 27, 28, 29, 30, 31, 32, 33, 34, 35, 36, 37, 38, 39, 40, 41, 42, 43] (by decide +kernel)
  have hRC := RC_le hR10 hC16
  refine lv_aload_n hx hb dX9_layOutVisibility_0 rfl (lv_at hl 0 rfl) ?_
  refine r_get CF hK hH 29 (Nat.le_of_ble_eq_true rfl) rfl rfl JX9 0 (by decide) K1 rfl dX9_layOutVisibility_1 ?_
  refine r_top (show (σ 29 0 : Int32) = nI R from hR) ?_
  refine lv_aload_n hx hb dX9_layOutVisibility_4 rfl (lv_at hl 0 rfl) ?_
  refine r_get CF hK hH 29 (Nat.le_of_ble_eq_true rfl) rfl rfl JX9 1 (by decide) K2 rfl dX9_layOutVisibility_5 ?_
  refine r_top (show (σ 29 1 : Int32) = nI C from hC) ?_
  refine lv_imul hx hb dX9_layOutVisibility_8 ?_
  refine r_top (show (((nI R) * (nI C)) : Int32) = nI (R * C) from pk_mul R C) ?_
  refine lv_istore_n (lv' := [(1, .int (nI (R * C))), (0, .ref (G.2.1 29))]) hx hb dX9_layOutVisibility_9 rfl hl (by decide) rfl (fun ls hl => ?_)
  refine lv_iconst (v := 0) hx hb dX9_layOutVisibility_10 (by decide) ?_
  refine lv_istore_n (lv' := [(2, .int (0 : Int32)), (1, .int (nI (R * C))), (0, .ref (G.2.1 29))]) hx hb dX9_layOutVisibility_11 rfl hl (by decide) rfl (fun ls hl => ?_)
  have lp12 : ∀ (fu : Nat) (i : Nat) (σ1 : Sg) (H : Heap) (locs : List Loc) (ls : Array Slot), (R * C + 1 ≤ i + fu) → (i ≤ R * C) → (SFr σ σ1) → (SI (σ1 35) (σ 30) (cmM σ) C (R * C) (i) (0)) → Hp G σ1 H → va_S (fr G) sz.heap H locs → lv_has ls 4 [(0, .ref (G.2.1 29)), (1, .int (nI (R * C))), (2, .int (nI i))] → W pz l ez (rmO 3 80) sz mz (List.toArray [.ref (G.2.1 29)]) below meth cz H locs 0 0 (MQ below (QV G (fun σ' => SFr σ σ' ∧ SI (σ' 35) (σ 30) (cmM σ) C (R * C) (R * C) (0))) (List.toArray [.ref (G.2.1 29)]) sz 0 0 (fr G)) (F0 mz 12 ls []) := by
    intro fu
    induction fu with
    | zero => intros; omega
    | succ fu ih12 =>
      intro i σ1 H locs ls hfu hi hF hT hH hS hl
      refine lv_iload_n hx hb dX9_layOutVisibility_12 rfl (lv_at hl 2 rfl) ?_
      refine lv_iload_n hx hb dX9_layOutVisibility_13 rfl (lv_at hl 1 rfl) ?_
      refine lv_icmp_ge (tgt := 76) hx hb dX9_layOutVisibility_14 (by decide) (fun c14 => ?_) (fun c14 => ?_)
      · have c14 : (R * C) ≤ i := (nI_leI (a := (R * C)) (b := i) (by omega) (by omega)).mp c14
        exact r_vret CF hr hlk hH hS dX9_layOutVisibility_76 ⟨hF, (show i = R * C by omega) ▸ hT⟩
      · have c14 : i < (R * C) := Nat.lt_of_not_le (fun zq => c14 ((nI_leI (a := (R * C)) (b := i) (by omega) (by omega)).mpr zq))
        obtain ⟨z1, z2⟩ := zC c14 (show 1 ≤ C by omega)
        refine lv_iconst (v := 0) hx hb dX9_layOutVisibility_17 (by decide) ?_
        refine lv_istore_n (lv' := [(3, .int (0 : Int32)), (0, .ref (G.2.1 29)), (1, .int (nI (R * C))), (2, .int (nI i))]) hx hb dX9_layOutVisibility_18 rfl hl (by decide) rfl (fun ls hl => ?_)
        have lp19 : ∀ (fv : Nat) (j : Nat) (σ1' : Sg) (H : Heap) (locs : List Loc) (ls : Array Slot), (R * C + 1 ≤ j + fv) → (j ≤ R * C) → (SFr σ σ1') → (SI (σ1' 35) (σ 30) (cmM σ) C (R * C) (i) (j)) → Hp G σ1' H → va_S (fr G) sz.heap H locs → lv_has ls 4 [(0, .ref (G.2.1 29)), (1, .int (nI (R * C))), (2, .int (nI i)), (3, .int (nI j))] → W pz l ez (rmO 3 80) sz mz (List.toArray [.ref (G.2.1 29)]) below meth cz H locs 0 0 (MQ below (QV G (fun σ' => SFr σ σ' ∧ SI (σ' 35) (σ 30) (cmM σ) C (R * C) (R * C) (0))) (List.toArray [.ref (G.2.1 29)]) sz 0 0 (fr G)) (F0 mz 19 ls []) := by
          intro fv
          induction fv with
          | zero => intros; omega
          | succ fv ih19 =>
            intro j σ1' H locs ls hg hj hF' hT' hH hS hl
            refine lv_iload_n hx hb dX9_layOutVisibility_19 rfl (lv_at hl 3 rfl) ?_
            refine lv_iload_n hx hb dX9_layOutVisibility_20 rfl (lv_at hl 1 rfl) ?_
            refine lv_icmp_ge (tgt := 70) hx hb dX9_layOutVisibility_21 (by decide) (fun c21 => ?_) (fun c21 => ?_)
            · have c21 : (R * C) ≤ j := (nI_leI (a := (R * C)) (b := j) (by omega) (by omega)).mp c21
              refine lv_iinc (v := nI (i + 1)) (lv' := [(2, .int (nI (i + 1))), (0, .ref (G.2.1 29)), (1, .int (nI (R * C))), (3, .int (nI j))]) hx hb dX9_layOutVisibility_70 hl (k := 2) rfl (nI_1 _) (by decide) rfl (fun ls hl => ?_)
              refine lv_goto (tgt := 12) hx hb dX9_layOutVisibility_73 (by decide) ?_
              exact ih12 (i + 1) σ1' _ _ ls (by omega) (by omega) hF' (SI.row c21 hT') hH hS (lv_sub hl [1, 2, 0] rfl)
            · have c21 : j < (R * C) := Nat.lt_of_not_le (fun zq => c21 ((nI_leI (a := (R * C)) (b := j) (by omega) (by omega)).mpr zq))
              obtain ⟨z3, z4⟩ := zC c21 (show 1 ≤ C by omega)
              refine lv_aload_n hx hb dX9_layOutVisibility_24 rfl (lv_at hl 0 rfl) ?_
              refine r_get CF hK hH 29 (Nat.le_of_ble_eq_true rfl) rfl rfl JX9 15 (by decide) K3 rfl dX9_layOutVisibility_25 ?_
              refine lv_sipush (v := 160) hx hb dX9_layOutVisibility_28 (by decide) ?_
              refine lv_iload_n hx hb dX9_layOutVisibility_31 rfl (lv_at hl 2 rfl) ?_
              refine lv_imul hx hb dX9_layOutVisibility_32 ?_
              refine lv_iload_n hx hb dX9_layOutVisibility_33 rfl (lv_at hl 3 rfl) ?_
              refine lv_iadd hx hb dX9_layOutVisibility_34 ?_
              refine r_top (show ((((160 : Int32) * (nI i)) + (nI j)) : Int32) = nI (160 * i + j) from (by rw [show (160 : Int32) = nI 160 from rfl, pk_mul, nI_add])) ?_
              refine lv_aload_n hx hb dX9_layOutVisibility_35 rfl (lv_at hl 0 rfl) ?_
              refine lv_iload_n hx hb dX9_layOutVisibility_36 rfl (lv_at hl 2 rfl) ?_
              refine lv_aload_n hx hb dX9_layOutVisibility_37 rfl (lv_at hl 0 rfl) ?_
              refine r_get CF hK hH 29 (Nat.le_of_ble_eq_true rfl) rfl rfl JX9 1 (by decide) K2 rfl dX9_layOutVisibility_38 ?_
              refine r_top (show (σ1' 29 1 : Int32) = nI C from (by rw [hF' 29 (by omega)]; exact hC)) ?_
              refine lv_idiv hx hb dX9_layOutVisibility_41 (nI_ne0 (by omega) (by omega)) ?_
              refine r_top (show (((nI i) / (nI C)) : Int32) = nI (i / C) from (dvd_nI (by omega) (by omega) hC16).1) ?_
              refine lv_iload_n hx hb dX9_layOutVisibility_42 rfl (lv_at hl 2 rfl) ?_
              refine lv_aload_n hx hb dX9_layOutVisibility_43 rfl (lv_at hl 0 rfl) ?_
              refine r_get CF hK hH 29 (Nat.le_of_ble_eq_true rfl) rfl rfl JX9 1 (by decide) K2 rfl dX9_layOutVisibility_44 ?_
              refine r_top (show (σ1' 29 1 : Int32) = nI C from (by rw [hF' 29 (by omega)]; exact hC)) ?_
              refine lv_irem hx hb dX9_layOutVisibility_47 (nI_ne0 (by omega) (by omega)) ?_
              refine r_top (show (((nI i) - (nI i) / (nI C) * (nI C)) : Int32) = nI (i % C) from (dvd_nI (by omega) (by omega) hC16).2) ?_
              refine lv_iload_n hx hb dX9_layOutVisibility_48 rfl (lv_at hl 3 rfl) ?_
              refine lv_aload_n hx hb dX9_layOutVisibility_49 rfl (lv_at hl 0 rfl) ?_
              refine r_get CF hK hH 29 (Nat.le_of_ble_eq_true rfl) rfl rfl JX9 1 (by decide) K2 rfl dX9_layOutVisibility_50 ?_
              refine r_top (show (σ1' 29 1 : Int32) = nI C from (by rw [hF' 29 (by omega)]; exact hC)) ?_
              refine lv_idiv hx hb dX9_layOutVisibility_53 (nI_ne0 (by omega) (by omega)) ?_
              refine r_top (show (((nI j) / (nI C)) : Int32) = nI (j / C) from (dvd_nI (by omega) (by omega) hC16).1) ?_
              refine lv_iload_n hx hb dX9_layOutVisibility_54 rfl (lv_at hl 3 rfl) ?_
              refine lv_aload_n hx hb dX9_layOutVisibility_55 rfl (lv_at hl 0 rfl) ?_
              refine r_get CF hK hH 29 (Nat.le_of_ble_eq_true rfl) rfl rfl JX9 1 (by decide) K2 rfl dX9_layOutVisibility_56 ?_
              refine r_top (show (σ1' 29 1 : Int32) = nI C from (by rw [hF' 29 (by omega)]; exact hC)) ?_
              refine lv_irem hx hb dX9_layOutVisibility_59 (nI_ne0 (by omega) (by omega)) ?_
              refine r_top (show (((nI j) - (nI j) / (nI C) * (nI C)) : Int32) = nI (j % C) from (dvd_nI (by omega) (by omega) hC16).2) ?_
              refine r_cR hS (r_runV (n := 4) (As := [.int (nI (i / C)), .int (nI (i % C)), .int (nI (j / C)), .int (nI (j % C))]) (rest := [.int (nI (160 * i + j)), .ref (G.2.1 35)]) CF hK hH (c_X9_sees l G σ1' (i / C) (i % C) (j / C) (j % C) (by omega) (by omega) (by omega) (by omega)) gX9_layOutVisibility_X9_sees rfl rfl rfl rfl (by decide +kernel) ⟨⟨Nat.le_of_ble_eq_true rfl, Nat.le_of_ble_eq_true rfl⟩, Nat.le_of_ble_eq_true rfl, Nat.le_of_ble_eq_true rfl⟩ 29 rfl (Nat.le_of_ble_eq_true rfl) rfl rfl rfl hl.1 rfl (Nat.le_of_ble_eq_true rfl) dX9_layOutVisibility_60) (fun H locs hH hS => ?_)
              refine r_top (show (b2i (seesF (σ1' 30) (cmM σ1') (i / C) (i % C) (j / C) (j % C)) : Int32) = b2i (seesF (σ 30) (cmM σ) (i / C) (i % C) (j / C) (j % C)) from (by rw [hF'.cm, hF' 30 (by omega)])) ?_
              refine r_zast CF hK hH hS 35 (Nat.le_of_ble_eq_true rfl) (fun _ => rfl) (Nat.le_of_ble_eq_true rfl) (160 * i + j) rfl (by omega) dX9_layOutVisibility_63 (fun H locs hH hS => ?_)
              refine lv_iinc (v := nI (j + 1)) (lv' := [(3, .int (nI (j + 1))), (0, .ref (G.2.1 29)), (1, .int (nI (R * C))), (2, .int (nI i))]) hx hb dX9_layOutVisibility_64 hl (k := 3) rfl (nI_1 _) (by decide) rfl (fun ls hl => ?_)
              refine lv_goto (tgt := 19) hx hb dX9_layOutVisibility_67 (by decide) ?_
              exact ih19 (j + 1) (u2 σ1' 35 (160 * i + j) (b2i (seesF (σ 30) (cmM σ) (i / C) (i % C) (j / C) (j % C)))) _ _ ls (by omega) (by omega) (fun k h1 => (u2_n _ _ _ h1).trans (hF' k h1)) (by rw [u2_s]; exact SI.next hRC c21 hT') hH hS (lv_sub hl [1, 2, 3, 0] rfl)
        exact lp19 (R * C + 1) 0 σ1 _ _ ls (by omega) (by omega) hF hT hH hS (lv_sub hl [1, 2, 3, 0] rfl)
  exact lp12 (R * C + 1) 0 σ _ _ ls (by omega) (by omega) (fun _ _ => rfl) (fun f z _ ho => by omega) hH hS (lv_sub hl [2, 1, 0] rfl)

theorem nd_iff {R rs a : Nat} (h1 : 1 ≤ rs) (h2 : rs ≤ R) : a < ndF R rs ↔ rs / 2 + a * rs < R := by
  unfold ndF
  have h3 : a < (R - 1 - rs / 2) / rs + 1 ↔ a ≤ (R - 1 - rs / 2) / rs := by omega
  rw [h3, Nat.le_div_iff_mul_le (by omega)]
  omega
theorem ph_iff {rs ps C a b : Nat} (h1 : 1 ≤ ps) (hC : 1 ≤ C) : b < phF (sqP rs ps C a) ↔ b * ps < C := by
  unfold phF sqP
  have h3 : b < (C - 1 - 0) / ps + 1 ↔ b ≤ (C - 1 - 0) / ps := by omega
  show b < (C - 1 - 0) / ps + 1 ↔ _
  rw [h3, Nat.le_div_iff_mul_le (by omega)]
  omega
theorem add_nI (a b : Nat) : nI a + nI b = nI (a + b) := nI_add a b
theorem seen_at {T g : Nat → Int32} {cm : Cm} {R C rs ps a b z : Nat} (hT : SI T g cm C (R * C) (R * C) 0) (hz : z < R * C) (hr : rs / 2 + a * rs < R) (hc : b * ps < C) : T (160 * ((rs / 2 + a * rs) * C + b * ps) + z) = b2i (psF g cm (sqP rs ps C a) b (z / C) (z % C)) := by
  rw [hT _ z hz (Or.inl (lt_mul hr hc)), dm1 hc, dm2 hc]
  unfold psF sqP
  show b2i (seesF g cm (rs / 2 + a * rs) (b * ps) _ _) = b2i (seesF g cm (rs / 2 + a * rs) (0 + b * ps) _ _)
  rw [Nat.zero_add]

set_option maxRecDepth 100000 in
set_option maxHeartbeats 4000000 in
theorem c_X9_isCovered (l : Launch) (G : Gm) (σ : Sg) (R C : Nat) (hR : σ 29 0 = nI R) (hC : σ 29 1 = nI C) (hR3 : 3 ≤ R) (hR10 : R ≤ 10) (hC4 : 4 ≤ C) (hC16 : C ≤ 16) (hT : SI (σ 35) (σ 30) (cmM σ) C (R * C) (R * C) 0) (L rs ps : Nat) (hL9 : L ≤ 9) (h1 : 1 ≤ rs) (h2 : rs ≤ R) (h3 : 1 ≤ ps) (h4 : ps ≤ C) (z : Nat) (hz : z < R * C) : Met l yX9_isCovered wsX9_isCovered (rmO 0 0) (PP G [.ref (G.2.1 29), .int (nI z), .int (nI L), .int (nI rs), .int (nI ps)] σ) (QI G (RV (b2i (!gapP (σ 30) (cmM σ) (sqP rs ps C) (ndF R rs) C L z)) σ)) 0 0 (fr G) := by
  refine r_start (cc := cX9_isCovered) (maxL := 8) (ret := (some .boolean)) (by decide) rfl (Nat.le_of_ble_eq_true rfl) ?_
  intro pz ez sz mz below meth cz ls CF hr hlk hK hH hS hl
  have CF : CallFix pz mz cz cX9_isCovered 8 sz (List.toArray [.ref (G.2.1 29), .int (nI z), .int (nI L), .int (nI rs), .int (nI ps)]) wsX9_isCovered RX9 := CF
  have hx := CF.1
  have hb := CF.2.1
  have hown := CF.2.2.2.1
  have hts := CF.2.2.2.2
  have hl : lv_has ls 8 [(0, .ref (G.2.1 29)), (1, .int (nI z)), (2, .int (nI L)), (3, .int (nI rs)), (4, .int (nI ps))] := hl
  have K1 := hts _ (List.mem_of_getElem? (i := 1) rfl)
  have K2 := hts _ (List.mem_of_getElem? (i := 2) rfl)
  have K3 := hts _ (List.mem_of_getElem? (i := 3) rfl)
  have JX9 : ∀ w ∈ wsX90, w ∈ wsX9_isCovered := in_r _ [4, 5, 6, 7, 8, 9, 10, 11, 12, 13, 14, 15, 16, 17, 18, 19, 20, 21, 22, 23] (by decide +kernel)
  have hRC := RC_le hR10 hC16
  have hnd := ndF_le (rs := rs) hR10
  refine lv_iconst (v := 0) hx hb dX9_isCovered_0 (by decide) ?_
  refine lv_istore (lv' := [(5, .int (0 : Int32)), (0, .ref (G.2.1 29)), (1, .int (nI z)), (2, .int (nI L)), (3, .int (nI rs)), (4, .int (nI ps))]) hx hb dX9_isCovered_1 hl (by decide) rfl (fun ls hl => ?_)
  refine lv_iload_n hx hb dX9_isCovered_3 rfl (lv_at hl 4 rfl) ?_
  refine lv_iconst (v := 2) hx hb dX9_isCovered_4 (by decide) ?_
  refine lv_idiv hx hb dX9_isCovered_5 (by decide) ?_
  refine r_top (show (((nI rs) / (2 : Int32)) : Int32) = nI (rs / 2 + 0 * rs) from (by rw [Nat.zero_mul]; exact half_nI (by omega))) ?_
  refine lv_istore (lv' := [(6, .int (nI (rs / 2 + 0 * rs))), (5, .int (0 : Int32)), (0, .ref (G.2.1 29)), (1, .int (nI z)), (2, .int (nI L)), (3, .int (nI rs)), (4, .int (nI ps))]) hx hb dX9_isCovered_6 hl (by decide) rfl (fun ls hl => ?_)
  have lp8 : ∀ (fu : Nat) (a : Nat) (x5 : Int32) (H : Heap) (locs : List Loc) (ls : Array Slot), (ndF R rs + 1 ≤ a + fu) → (a ≤ ndF R rs) → (x5 = nI (covF (σ 30) (cmM σ) (sqP rs ps C) (z / C) (z % C) a)) → Hp G σ H → va_S (fr G) sz.heap H locs → lv_has ls 8 [(0, .ref (G.2.1 29)), (1, .int (nI z)), (2, .int (nI L)), (3, .int (nI rs)), (4, .int (nI ps)), (5, .int x5), (6, .int (nI (rs / 2 + a * rs)))] → W pz l ez (rmO 0 0) sz mz (List.toArray [.ref (G.2.1 29), .int (nI z), .int (nI L), .int (nI rs), .int (nI ps)]) below meth cz H locs 0 0 (MQ below (QI G (RV (b2i (!gapP (σ 30) (cmM σ) (sqP rs ps C) (ndF R rs) C L z)) σ)) (List.toArray [.ref (G.2.1 29), .int (nI z), .int (nI L), .int (nI rs), .int (nI ps)]) sz 0 0 (fr G)) (F0 mz 8 ls []) := by
    intro fu
    induction fu with
    | zero => intros; omega
    | succ fu ih8 =>
      intro a x5 H locs ls hfu hia h5 hH hS hl
      have ha10 : (rs / 2 + a * rs) < 1000 := (by have q : a * rs ≤ 10 * rs := Nat.mul_le_mul_right _ (by omega); omega) 
      refine lv_iload hx hb dX9_isCovered_8 (lv_at hl 6 rfl) ?_
      refine lv_aload_n hx hb dX9_isCovered_10 rfl (lv_at hl 0 rfl) ?_
      refine r_get CF hK hH 29 (Nat.le_of_ble_eq_true rfl) rfl rfl JX9 0 (by decide) K1 rfl dX9_isCovered_11 ?_
      refine r_top (show (σ 29 0 : Int32) = nI R from hR) ?_
      refine lv_icmp_ge (tgt := 82) hx hb dX9_isCovered_14 (by decide) (fun c14 => ?_) (fun c14 => ?_)
      · have c14 : R ≤ (rs / 2 + a * rs) := (nI_leI (a := R) (b := (rs / 2 + a * rs)) (by omega) (by omega)).mp c14
        have hcv31 : covF (σ 30) (cmM σ) (sqP rs ps C) (z / C) (z % C) (ndF R rs) < 2 ^ 31 := (by have := covF_le (σ 30) (cmM σ) (sqP rs ps C) (z / C) (z % C) (n := ndF R rs) (fun i hi => ⟨by have := row_lt h1 h2 hi; show rs / 2 + i * rs < 10; omega, Nat.zero_le _, show C - 1 < 16 by omega, h3, show ps ≤ 16 by omega⟩); omega)
        refine lv_iload hx hb dX9_isCovered_82 (lv_at hl 5 rfl) ?_
        refine r_top (show (x5 : Int32) = nI (covF (σ 30) (cmM σ) (sqP rs ps C) (z / C) (z % C) (ndF R rs)) from (by rw [h5]; have q := nd_iff (a := a) h1 h2; have e : a = ndF R rs := (by omega); rw [e])) ?_
        refine lv_iload_n hx hb dX9_isCovered_84 rfl (lv_at hl 2 rfl) ?_
        refine lv_icmp_lt (tgt := 92) hx hb dX9_isCovered_85 (by decide) (fun c85 => ?_) (fun c85 => ?_)
        · have c85 : covF (σ 30) (cmM σ) (sqP rs ps C) (z / C) (z % C) (ndF R rs) < L := (nI_ltI hcv31 (by omega)).mp c85
          refine lv_iconst (v := 0) hx hb dX9_isCovered_92 (by decide) ?_
          exact r_zret CF hr hlk hH hS rfl dX9_isCovered_93 ⟨by simp [gapP, b2i, c85], rfl⟩
        · have c85 : ¬ covF (σ 30) (cmM σ) (sqP rs ps C) (z / C) (z % C) (ndF R rs) < L := fun zq => c85 (nI_lt zq (by omega))
          refine lv_iconst (v := 1) hx hb dX9_isCovered_88 (by decide) ?_
          refine lv_goto (tgt := 93) hx hb dX9_isCovered_89 (by decide) ?_
          exact r_zret CF hr hlk hH hS rfl dX9_isCovered_93 ⟨by simp [gapP, b2i, c85], rfl⟩
      · have c14 : (rs / 2 + a * rs) < R := Nat.lt_of_not_le (fun zq => c14 ((nI_leI (a := R) (b := (rs / 2 + a * rs)) (by omega) (by omega)).mpr zq))
        have hand := (nd_iff h1 h2).mpr c14
        refine lv_iconst (v := 0) hx hb dX9_isCovered_17 (by decide) ?_
        refine r_top (show ((0) : Int32) = nI (0 * ps) from (by rw [Nat.zero_mul]; rfl)) ?_
        refine lv_istore (lv' := [(7, .int (nI (0 * ps))), (0, .ref (G.2.1 29)), (1, .int (nI z)), (2, .int (nI L)), (3, .int (nI rs)), (4, .int (nI ps)), (5, .int x5), (6, .int (nI (rs / 2 + a * rs)))]) hx hb dX9_isCovered_18 hl (by decide) rfl (fun ls hl => ?_)
        have lp20 : ∀ (fv : Nat) (b : Nat) (y5 : Int32) (H : Heap) (locs : List Loc) (ls : Array Slot), (phF (sqP rs ps C a) + 1 ≤ b + fv) → (b ≤ phF (sqP rs ps C a)) → (y5 = nI (covF (σ 30) (cmM σ) (sqP rs ps C) (z / C) (z % C) a + cnt (fun p => psF (σ 30) (cmM σ) (sqP rs ps C a) p (z / C) (z % C)) b)) → Hp G σ H → va_S (fr G) sz.heap H locs → lv_has ls 8 [(0, .ref (G.2.1 29)), (1, .int (nI z)), (2, .int (nI L)), (3, .int (nI rs)), (4, .int (nI ps)), (5, .int y5), (6, .int (nI (rs / 2 + a * rs))), (7, .int (nI (b * ps)))] → W pz l ez (rmO 0 0) sz mz (List.toArray [.ref (G.2.1 29), .int (nI z), .int (nI L), .int (nI rs), .int (nI ps)]) below meth cz H locs 0 0 (MQ below (QI G (RV (b2i (!gapP (σ 30) (cmM σ) (sqP rs ps C) (ndF R rs) C L z)) σ)) (List.toArray [.ref (G.2.1 29), .int (nI z), .int (nI L), .int (nI rs), .int (nI ps)]) sz 0 0 (fr G)) (F0 mz 20 ls []) := by
          intro fv
          induction fv with
          | zero => intros; omega
          | succ fv ih20 =>
            intro b y5 H locs ls hg hb1 h5' hH hS hl
            have hb100 : b * ps < 1000 := (by have q0 : phF (sqP rs ps C a) ≤ 16 := phF_le (q := sqP rs ps C a) ⟨by show rs / 2 + a * rs < 10; omega, Nat.zero_le _, show C - 1 < 16 by omega, h3, show ps ≤ 16 by omega⟩; have q : b * ps ≤ 16 * 16 := Nat.mul_le_mul (by omega) (by omega); omega)
            refine lv_iload hx hb dX9_isCovered_20 (lv_at hl 7 rfl) ?_
            refine lv_aload_n hx hb dX9_isCovered_22 rfl (lv_at hl 0 rfl) ?_
            refine r_get CF hK hH 29 (Nat.le_of_ble_eq_true rfl) rfl rfl JX9 1 (by decide) K2 rfl dX9_isCovered_23 ?_
            refine r_top (show (σ 29 1 : Int32) = nI C from hC) ?_
            refine lv_icmp_ge (tgt := 73) hx hb dX9_isCovered_26 (by decide) (fun c26 => ?_) (fun c26 => ?_)
            · have c26 : C ≤ (b * ps) := (nI_leI (a := C) (b := (b * ps)) (by omega) (by omega)).mp c26
              have hbp : phF (sqP rs ps C a) ≤ b := Nat.le_of_not_lt (fun zq => absurd ((ph_iff h3 (by omega)).mp zq) (by omega))
              refine lv_iload hx hb dX9_isCovered_73 (lv_at hl 6 rfl) ?_
              refine lv_iload_n hx hb dX9_isCovered_75 rfl (lv_at hl 3 rfl) ?_
              refine lv_iadd hx hb dX9_isCovered_76 ?_
              refine r_top (show (((nI (rs / 2 + a * rs)) + (nI rs)) : Int32) = nI (rs / 2 + (a + 1) * rs) from (by rw [nI_add, Nat.succ_mul, Nat.add_assoc])) ?_
              refine lv_istore (lv' := [(6, .int (nI (rs / 2 + (a + 1) * rs))), (0, .ref (G.2.1 29)), (1, .int (nI z)), (2, .int (nI L)), (3, .int (nI rs)), (4, .int (nI ps)), (5, .int y5), (7, .int (nI (b * ps)))]) hx hb dX9_isCovered_77 hl (by decide) rfl (fun ls hl => ?_)
              refine lv_goto (tgt := 8) hx hb dX9_isCovered_79 (by decide) ?_
              exact ih8 (a + 1) y5 _ _ ls (by omega) (by omega) (by rw [h5']; have e : b = phF (sqP rs ps C a) := (by omega); rw [e]; rfl) hH hS (lv_sub hl [1, 2, 3, 4, 5, 6, 0] rfl)
            · have c26 : (b * ps) < C := Nat.lt_of_not_le (fun zq => c26 ((nI_leI (a := C) (b := (b * ps)) (by omega) (by omega)).mpr zq))
              have hbp := (ph_iff (rs := rs) (a := a) h3 (show 1 ≤ C by omega)).mpr c26
              have hlm := lt_mul c14 c26
              refine lv_iload hx hb dX9_isCovered_29 (lv_at hl 5 rfl) ?_
              refine lv_aload_n hx hb dX9_isCovered_31 rfl (lv_at hl 0 rfl) ?_
              refine r_get CF hK hH 29 (Nat.le_of_ble_eq_true rfl) rfl rfl JX9 15 (by decide) K3 rfl dX9_isCovered_32 ?_
              refine lv_sipush (v := 160) hx hb dX9_isCovered_35 (by decide) ?_
              refine lv_aload_n hx hb dX9_isCovered_38 rfl (lv_at hl 0 rfl) ?_
              refine r_get CF hK hH 29 (Nat.le_of_ble_eq_true rfl) rfl rfl JX9 1 (by decide) K2 rfl dX9_isCovered_39 ?_
              refine r_top (show (σ 29 1 : Int32) = nI C from hC) ?_
              refine lv_iload hx hb dX9_isCovered_42 (lv_at hl 6 rfl) ?_
              refine lv_imul hx hb dX9_isCovered_44 ?_
              refine r_top (show (((nI C) * (nI (rs / 2 + a * rs))) : Int32) = nI ((rs / 2 + a * rs) * C) from (by rw [pk_mul, Nat.mul_comm])) ?_
              refine lv_iload hx hb dX9_isCovered_45 (lv_at hl 7 rfl) ?_
              refine lv_iadd hx hb dX9_isCovered_47 ?_
              refine r_top (show (((nI ((rs / 2 + a * rs) * C)) + (nI (b * ps))) : Int32) = nI ((rs / 2 + a * rs) * C + b * ps) from nI_add _ _) ?_
              refine lv_imul hx hb dX9_isCovered_48 ?_
              refine r_top (show (((160 : Int32) * (nI ((rs / 2 + a * rs) * C + b * ps))) : Int32) = nI (160 * ((rs / 2 + a * rs) * C + b * ps)) from (pk_mul 160 _)) ?_
              refine lv_iload_n hx hb dX9_isCovered_49 rfl (lv_at hl 1 rfl) ?_
              refine lv_iadd hx hb dX9_isCovered_50 ?_
              refine r_top (show (((nI (160 * ((rs / 2 + a * rs) * C + b * ps))) + (nI z)) : Int32) = nI (160 * ((rs / 2 + a * rs) * C + b * ps) + z) from nI_add _ _) ?_
              refine r_zald CF hK hH 35 (Nat.le_of_ble_eq_true rfl) rfl (Nat.le_of_ble_eq_true rfl) (160 * ((rs / 2 + a * rs) * C + b * ps) + z) rfl (by omega) dX9_isCovered_51 ?_
              refine r_top (show (σ 35 (160 * ((rs / 2 + a * rs) * C + b * ps) + z) : Int32) = b2i (psF (σ 30) (cmM σ) (sqP rs ps C a) b (z / C) (z % C)) from seen_at hT hz c14 c26) ?_
              refine r_ifeqB (tgt := 59) hx hb dX9_isCovered_52 (by decide) (fun c52 => ?_) (fun c52 => ?_)
              · refine lv_iconst (v := 0) hx hb dX9_isCovered_59 (by decide) ?_
                refine lv_iadd hx hb dX9_isCovered_60 ?_
                refine lv_istore (lv' := [(5, .int (y5 + (0 : Int32))), (0, .ref (G.2.1 29)), (1, .int (nI z)), (2, .int (nI L)), (3, .int (nI rs)), (4, .int (nI ps)), (6, .int (nI (rs / 2 + a * rs))), (7, .int (nI (b * ps)))]) hx hb dX9_isCovered_61 hl (by decide) rfl (fun ls hl => ?_)
                refine lv_iload hx hb dX9_isCovered_63 (lv_at hl 7 rfl) ?_
                refine lv_iload hx hb dX9_isCovered_65 (lv_at hl 5 rfl) ?_
                refine lv_iadd hx hb dX9_isCovered_67 ?_
                refine r_top (show (((nI (b * ps)) + (nI ps)) : Int32) = nI ((b + 1) * ps) from (by rw [nI_add, Nat.succ_mul])) ?_
                refine lv_istore (lv' := [(7, .int (nI ((b + 1) * ps))), (5, .int (y5 + (0 : Int32))), (0, .ref (G.2.1 29)), (1, .int (nI z)), (2, .int (nI L)), (3, .int (nI rs)), (4, .int (nI ps)), (6, .int (nI (rs / 2 + a * rs)))]) hx hb dX9_isCovered_68 hl (by decide) rfl (fun ls hl => ?_)
                refine lv_goto (tgt := 20) hx hb dX9_isCovered_70 (by decide) ?_
                exact ih20 (b + 1) (y5 + (0 : Int32)) _ _ ls (by omega) (by omega) (by rw [cnt_f (p := fun p => psF (σ 30) (cmM σ) (sqP rs ps C a) p (z / C) (z % C)) c52, h5']; simp) hH hS (lv_sub hl [2, 3, 4, 5, 6, 1, 7, 0] rfl)
              · refine lv_iconst (v := 1) hx hb dX9_isCovered_55 (by decide) ?_
                refine lv_goto (tgt := 60) hx hb dX9_isCovered_56 (by decide) ?_
                refine lv_iadd hx hb dX9_isCovered_60 ?_
                refine lv_istore (lv' := [(5, .int (y5 + (1 : Int32))), (0, .ref (G.2.1 29)), (1, .int (nI z)), (2, .int (nI L)), (3, .int (nI rs)), (4, .int (nI ps)), (6, .int (nI (rs / 2 + a * rs))), (7, .int (nI (b * ps)))]) hx hb dX9_isCovered_61 hl (by decide) rfl (fun ls hl => ?_)
                refine lv_iload hx hb dX9_isCovered_63 (lv_at hl 7 rfl) ?_
                refine lv_iload hx hb dX9_isCovered_65 (lv_at hl 5 rfl) ?_
                refine lv_iadd hx hb dX9_isCovered_67 ?_
                refine r_top (show (((nI (b * ps)) + (nI ps)) : Int32) = nI ((b + 1) * ps) from (by rw [nI_add, Nat.succ_mul])) ?_
                refine lv_istore (lv' := [(7, .int (nI ((b + 1) * ps))), (5, .int (y5 + (1 : Int32))), (0, .ref (G.2.1 29)), (1, .int (nI z)), (2, .int (nI L)), (3, .int (nI rs)), (4, .int (nI ps)), (6, .int (nI (rs / 2 + a * rs)))]) hx hb dX9_isCovered_68 hl (by decide) rfl (fun ls hl => ?_)
                refine lv_goto (tgt := 20) hx hb dX9_isCovered_70 (by decide) ?_
                exact ih20 (b + 1) (y5 + (1 : Int32)) _ _ ls (by omega) (by omega) (by rw [cnt_t (p := fun p => psF (σ 30) (cmM σ) (sqP rs ps C a) p (z / C) (z % C)) c52, h5']; exact nI_1 _) hH hS (lv_sub hl [2, 3, 4, 5, 6, 1, 7, 0] rfl)
        exact lp20 (phF (sqP rs ps C a) + 1) 0 x5 _ _ ls (by omega) (by omega) h5 hH hS (lv_sub hl [1, 2, 3, 4, 5, 6, 7, 0] rfl)
  exact lp8 (ndF R rs + 1) 0 (0 : Int32) _ _ ls (by omega) (by omega) rfl hH hS (lv_sub hl [2, 3, 4, 5, 6, 1, 0] rfl)

theorem nd_nI2 {R rs : Nat} (h1 : 1 ≤ rs) (h2 : rs ≤ R) (hR : R ≤ 10) : (nI R - 1 - nI rs / 2) / nI rs + 1 = nI (ndF R rs) := by
  have q := nd_nI h1 h2 hR
  unfold quo at q
  rw [if_neg (nI_nle (by omega) (by omega))] at q
  exact q
theorem tot_sqP (rs ps C n : Nat) : totF (sqP rs ps C) n = n * ((C - 1) / ps + 1) := by
  induction n with
  | zero => simp [totF]
  | succ n ih =>
    simp only [totF, ih]
    rw [Nat.succ_mul]
    rfl
def pbF (o : Option Nat) : Int32 := match o with
  | some p => nI p
  | none => 100000000

set_option maxRecDepth 100000 in
set_option maxHeartbeats 4000000 in
theorem c_X9_photosBy (l : Launch) (G : Gm) (σ : Sg) (R C : Nat) (hR : σ 29 0 = nI R) (hC : σ 29 1 = nI C) (hR3 : 3 ≤ R) (hR10 : R ≤ 10) (hC4 : 4 ≤ C) (hC16 : C ≤ 16) (hT : SI (σ 35) (σ 30) (cmM σ) C (R * C) (R * C) 0) (L rs ps : Nat) (hL9 : L ≤ 9) (h1 : 1 ≤ rs) (h2 : rs ≤ R) (h3 : 1 ≤ ps) (h4 : ps ≤ C) : Met l yX9_photosBy wsX9_photosBy (rmO 1 27) (PP G [.ref (G.2.1 29), .int (nI L), .int (nI rs), .int (nI ps)] σ) (QI G (RV (pbF (feF (σ 30) (cmM σ) R C L rs ps)) σ)) 0 0 (fr G) := by
  refine r_start (cc := cX9_photosBy) (maxL := 6) (ret := (some .int)) (by decide) rfl (Nat.le_of_ble_eq_true rfl) ?_
  intro pz ez sz mz below meth cz ls CF hr hlk hK hH hS hl
  have CF : CallFix pz mz cz cX9_photosBy 6 sz (List.toArray [.ref (G.2.1 29), .int (nI L), .int (nI rs), .int (nI ps)]) wsX9_photosBy RX9 := CF
  have hx := CF.1
  have hb := CF.2.1
  have hown := CF.2.2.2.1
  have hts := CF.2.2.2.2
  have hl : lv_has ls 6 [(0, .ref (G.2.1 29)), (1, .int (nI L)), (2, .int (nI rs)), (3, .int (nI ps))] := hl
  have K1 := hts _ (List.mem_of_getElem? (i := 1) rfl)
  have K2 := hts _ (List.mem_of_getElem? (i := 2) rfl)
  have K3 := hts _ (List.mem_of_getElem? (i := 3) rfl)
  have JX9 : ∀ w ∈ wsX90, w ∈ wsX9_photosBy := in_r _ [10, 11, 12, 13, 14, 15, 16, 17, 18, 19, 20, 21, 22, 23, 24, 25, 26, 27, 28, 29] (by decide +kernel)
  have hRC := RC_le hR10 hC16
  have hnd := ndF_le (rs := rs) hR10
  have hnq := nd_nI2 h1 h2 hR10
  refine lv_aload_n hx hb dX9_photosBy_0 rfl (lv_at hl 0 rfl) ?_
  refine r_get CF hK hH 29 (Nat.le_of_ble_eq_true rfl) rfl rfl JX9 0 (by decide) K1 rfl dX9_photosBy_1 ?_
  refine r_top (show (σ 29 0 : Int32) = nI R from hR) ?_
  refine lv_iconst (v := 1) hx hb dX9_photosBy_4 (by decide) ?_
  refine lv_isub hx hb dX9_photosBy_5 ?_
  refine lv_iload_n hx hb dX9_photosBy_6 rfl (lv_at hl 2 rfl) ?_
  refine lv_iconst (v := 2) hx hb dX9_photosBy_7 (by decide) ?_
  refine lv_idiv hx hb dX9_photosBy_8 (by decide) ?_
  refine lv_isub hx hb dX9_photosBy_9 ?_
  refine lv_iload_n hx hb dX9_photosBy_10 rfl (lv_at hl 2 rfl) ?_
  refine lv_idiv hx hb dX9_photosBy_11 (nI_ne0 (by omega) (by omega)) ?_
  refine lv_iconst (v := 1) hx hb dX9_photosBy_12 (by decide) ?_
  refine lv_iadd hx hb dX9_photosBy_13 ?_
  refine r_top (show ((((((nI R) - (1 : Int32)) - ((nI rs) / (2 : Int32))) / (nI rs)) + (1 : Int32)) : Int32) = nI (ndF R rs) from hnq) ?_
  refine lv_istore (lv' := [(4, .int (nI (ndF R rs))), (0, .ref (G.2.1 29)), (1, .int (nI L)), (2, .int (nI rs)), (3, .int (nI ps))]) hx hb dX9_photosBy_14 hl (by decide) rfl (fun ls hl => ?_)
  refine lv_iload hx hb dX9_photosBy_16 (lv_at hl 0 rfl) ?_
  refine lv_bipush (v := 8) hx hb dX9_photosBy_18 (by decide) ?_
  refine lv_icmp_le (tgt := 26) hx hb dX9_photosBy_20 (by decide) (fun c20 => ?_) (fun c20 => ?_)
  · have c20 : ndF R rs ≤ 8 := (nI_leI (a := ndF R rs) (b := 8) (by omega) (by omega)).mp c20
    refine lv_iconst (v := 0) hx hb dX9_photosBy_26 (by decide) ?_
    refine lv_istore (lv' := [(5, .int (0 : Int32)), (4, .int (nI (ndF R rs))), (0, .ref (G.2.1 29)), (1, .int (nI L)), (2, .int (nI rs)), (3, .int (nI ps))]) hx hb dX9_photosBy_27 hl (by decide) rfl (fun ls hl => ?_)
    have lp29 : ∀ (fu : Nat) (z : Nat) (H : Heap) (locs : List Loc) (ls : Array Slot), (R * C + 1 ≤ z + fu) → (z ≤ R * C) → (cnt (gapP (σ 30) (cmM σ) (sqP rs ps C) (ndF R rs) C L) z = 0) → Hp G σ H → va_S (fr G) sz.heap H locs → lv_has ls 6 [(0, .ref (G.2.1 29)), (1, .int (nI L)), (2, .int (nI rs)), (3, .int (nI ps)), (4, .int (nI (ndF R rs))), (5, .int (nI z))] → W pz l ez (rmO 1 27) sz mz (List.toArray [.ref (G.2.1 29), .int (nI L), .int (nI rs), .int (nI ps)]) below meth cz H locs 0 0 (MQ below (QI G (RV (pbF (feF (σ 30) (cmM σ) R C L rs ps)) σ)) (List.toArray [.ref (G.2.1 29), .int (nI L), .int (nI rs), .int (nI ps)]) sz 0 0 (fr G)) (F0 mz 29 ls []) := by
      intro fu
      induction fu with
      | zero => intros; omega
      | succ fu ih29 =>
        intro z H locs ls hfu hzl hz0 hH hS hl
        refine lv_iload hx hb dX9_photosBy_29 (lv_at hl 5 rfl) ?_
        refine lv_aload_n hx hb dX9_photosBy_31 rfl (lv_at hl 0 rfl) ?_
        refine r_get CF hK hH 29 (Nat.le_of_ble_eq_true rfl) rfl rfl JX9 0 (by decide) K1 rfl dX9_photosBy_32 ?_
        refine r_top (show (σ 29 0 : Int32) = nI R from hR) ?_
        refine lv_aload_n hx hb dX9_photosBy_35 rfl (lv_at hl 0 rfl) ?_
        refine r_get CF hK hH 29 (Nat.le_of_ble_eq_true rfl) rfl rfl JX9 1 (by decide) K3 rfl dX9_photosBy_36 ?_
        refine r_top (show (σ 29 1 : Int32) = nI C from hC) ?_
        refine lv_imul hx hb dX9_photosBy_39 ?_
        refine r_top (show (((nI R) * (nI C)) : Int32) = nI (R * C) from pk_mul R C) ?_
        refine lv_icmp_ge (tgt := 64) hx hb dX9_photosBy_40 (by decide) (fun c40 => ?_) (fun c40 => ?_)
        · have c40 : (R * C) ≤ z := (nI_leI (a := (R * C)) (b := z) (by omega) (by omega)).mp c40
          refine lv_iload hx hb dX9_photosBy_64 (lv_at hl 4 rfl) ?_
          refine lv_aload_n hx hb dX9_photosBy_66 rfl (lv_at hl 0 rfl) ?_
          refine r_get CF hK hH 29 (Nat.le_of_ble_eq_true rfl) rfl rfl JX9 1 (by decide) K3 rfl dX9_photosBy_67 ?_
          refine r_top (show (σ 29 1 : Int32) = nI C from hC) ?_
          refine lv_iconst (v := 1) hx hb dX9_photosBy_70 (by decide) ?_
          refine lv_isub hx hb dX9_photosBy_71 ?_
          refine r_top (show (((nI C) - (1 : Int32)) : Int32) = nI (C - 1) from (pk_sub (b := 1) (by omega))) ?_
          refine lv_iload_n hx hb dX9_photosBy_72 rfl (lv_at hl 3 rfl) ?_
          refine lv_idiv hx hb dX9_photosBy_73 (nI_ne0 (by omega) (by omega)) ?_
          refine r_top (show (((nI (C - 1)) / (nI ps)) : Int32) = nI ((C - 1) / ps) from (pk_div (by omega) (by omega) (by omega))) ?_
          refine lv_iconst (v := 1) hx hb dX9_photosBy_74 (by decide) ?_
          refine lv_iadd hx hb dX9_photosBy_75 ?_
          refine r_top (show (((nI ((C - 1) / ps)) + (1 : Int32)) : Int32) = nI ((C - 1) / ps + 1) from nI_1 _) ?_
          refine lv_imul hx hb dX9_photosBy_76 ?_
          refine r_top (show (((nI (ndF R rs)) * (nI ((C - 1) / ps + 1))) : Int32) = nI (totF (sqP rs ps C) (ndF R rs)) from (by rw [tot_sqP]; exact pk_mul _ _)) ?_
          exact r_iret CF hr hlk hH hS dX9_photosBy_77 ⟨by have e : z = R * C := (by omega); rw [e] at hz0; unfold feF; rw [if_neg (by omega), if_neg (by omega)]; rfl, rfl⟩
        · have c40 : z < (R * C) := Nat.lt_of_not_le (fun zq => c40 ((nI_leI (a := (R * C)) (b := z) (by omega) (by omega)).mpr zq))
          refine lv_aload_n hx hb dX9_photosBy_43 rfl (lv_at hl 0 rfl) ?_
          refine lv_iload hx hb dX9_photosBy_44 (lv_at hl 5 rfl) ?_
          refine lv_iload_n hx hb dX9_photosBy_46 rfl (lv_at hl 1 rfl) ?_
          refine lv_iload_n hx hb dX9_photosBy_47 rfl (lv_at hl 2 rfl) ?_
          refine lv_iload_n hx hb dX9_photosBy_48 rfl (lv_at hl 3 rfl) ?_
          refine r_cR hS (r_runV (n := 4) (As := [.int (nI z), .int (nI L), .int (nI rs), .int (nI ps)]) (rest := []) CF hK hH (c_X9_isCovered l G σ R C hR hC hR3 hR10 hC4 hC16 hT L rs ps hL9 h1 h2 h3 h4 z (by omega)) gX9_photosBy_X9_isCovered rfl rfl rfl rfl (by decide +kernel) ⟨⟨Nat.le_of_ble_eq_true rfl, Nat.le_of_ble_eq_true rfl⟩, Nat.le_of_ble_eq_true rfl, Nat.le_of_ble_eq_true rfl⟩ 29 rfl (Nat.le_of_ble_eq_true rfl) rfl rfl rfl hl.1 rfl (Nat.le_of_ble_eq_true rfl) dX9_photosBy_49) (fun H locs hH hS => ?_)
          refine r_ifneB (tgt := 58) hx hb dX9_photosBy_52 (by decide) (fun c52 => ?_) (fun c52 => ?_)
          · rw [Bool.not_eq_true'] at c52
            refine lv_iinc (v := nI (z + 1)) (lv' := [(5, .int (nI (z + 1))), (0, .ref (G.2.1 29)), (1, .int (nI L)), (2, .int (nI rs)), (3, .int (nI ps)), (4, .int (nI (ndF R rs)))]) hx hb dX9_photosBy_58 hl (k := 5) rfl (nI_1 _) (by decide) rfl (fun ls hl => ?_)
            refine lv_goto (tgt := 29) hx hb dX9_photosBy_61 (by decide) ?_
            exact ih29 (z + 1) _ _ ls (by omega) (by omega) (by rw [cnt_f (p := gapP (σ 30) (cmM σ) (sqP rs ps C) (ndF R rs) C L) c52, hz0]) hH hS (lv_sub hl [1, 2, 3, 4, 5, 0] rfl)
          · rw [Bool.not_eq_false'] at c52
            refine lv_ldc (v := 100000000) hx hb hown K2 dX9_photosBy_55 ?_
            exact r_iret CF hr hlk hH hS dX9_photosBy_57 ⟨by have q := cnt_pos (p := gapP (σ 30) (cmM σ) (sqP rs ps C) (ndF R rs) C L) c52 c40; unfold feF; rw [if_neg (by omega), if_pos q]; rfl, rfl⟩
    exact lp29 (R * C + 1) 0 _ _ ls (by omega) (by omega) rfl hH hS (lv_sub hl [2, 3, 4, 5, 1, 0] rfl)
  · have c20 : ¬ ndF R rs ≤ 8 := fun zq => c20 ((nI_leI (a := ndF R rs) (b := 8) (by omega) (by omega)).mpr zq)
    refine lv_ldc (v := 100000000) hx hb hown K2 dX9_photosBy_23 ?_
    exact r_iret CF hr hlk hH hS dX9_photosBy_25 ⟨by unfold feF; rw [if_pos (by omega)]; rfl, rfl⟩
