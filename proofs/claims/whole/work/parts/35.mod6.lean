def MFr (σ σ1 : Sg) : Prop := (∀ k, k ≠ 35 → k ≠ 29 → σ1 k = σ k) ∧ ∀ f, f ≠ 16 → f ≠ 17 → f ≠ 18 → σ1 29 f = σ 29 f
theorem MFr.cm {σ σ1 : Sg} (h : MFr σ σ1) : cmM σ1 = cmM σ := by unfold cmM; rw [h.2 2 (by omega) (by omega) (by omega), h.2 3 (by omega) (by omega) (by omega), h.2 4 (by omega) (by omega) (by omega), h.2 5 (by omega) (by omega) (by omega)]
def phO (o : Option (Nat × Nat × Nat)) : Int32 := match o with
  | some a => nI a.1
  | none => 100000000
def mbV (σ : Sg) (o : Option (Nat × Nat × Nat)) : Prop := σ 29 16 = phO o ∧ ∀ a, o = some a → σ 29 17 = nI a.2.1 ∧ σ 29 18 = nI a.2.2
theorem nI_never {a : Nat} (h : a ≤ 160) : nI a < 100000000 ∧ ¬ (100000000 : Int32) ≤ nI a := by
  have q := nI_lt (a := a) (b := 100000000) (by omega) (by omega)
  have e : nI 100000000 = (100000000 : Int32) := rfl
  rw [e] at q
  exact ⟨q, Int32.not_le.mpr q⟩
theorem st_pb {fe : Option Nat} {o : Option (Nat × Nat × Nat)} (rs ps : Nat) (hf : ∀ p, fe = some p → p ≤ 160) (ho : ∀ a, o = some a → a.1 ≤ 160) :
    (pbF fe < phO o → ∃ p, fe = some p ∧ stepP fe o rs ps = some (p, rs, ps)) ∧ (¬ pbF fe < phO o → stepP fe o rs ps = o) := by
  cases fe with
  | none =>
    refine ⟨fun h => ?_, fun _ => rfl⟩
    exfalso
    cases o with
    | none => exact absurd (show (100000000 : Int32) < 100000000 from h) (by decide)
    | some a => exact (Int32.not_lt.mpr (Int32.le_of_lt (nI_never (ho a rfl)).1)) h
  | some p =>
    have hp := hf p rfl
    cases o with
    | none => exact ⟨fun _ => ⟨p, rfl, rfl⟩, fun h => absurd (nI_never hp).1 h⟩
    | some a =>
      have ha := ho a rfl
      constructor
      · intro h
        have q : p < a.1 := (nI_ltI (by omega) (by omega)).mp h
        refine ⟨p, rfl, ?_⟩
        unfold stepP; dsimp only; rw [if_pos q]
      · intro h
        have q : ¬ p < a.1 := fun z => h (nI_lt z (by omega))
        unfold stepP; dsimp only; rw [if_neg q]

set_option maxRecDepth 100000 in
set_option maxHeartbeats 4000000 in
theorem c_X9_findPlan (l : Launch) (G : Gm) (σ : Sg) (R C : Nat) (hR : σ 29 0 = nI R) (hC : σ 29 1 = nI C) (hR3 : 3 ≤ R) (hR10 : R ≤ 10) (hC4 : 4 ≤ C) (hC16 : C ≤ 16) (L : Nat) (hL9 : L ≤ 9) : Met l yX9_findPlan wsX9_findPlan (rmO 4 103) (PP G [.ref (G.2.1 29), .int (nI L)] σ) (QI G (fun v σ' => v = b2i (bsF (σ 30) (cmM σ) R C L (R * C)).isSome ∧ MFr σ σ' ∧ mbV σ' (bsF (σ 30) (cmM σ) R C L (R * C)))) 0 0 (fr G) := by
  refine r_start (cc := cX9_findPlan) (maxL := 6) (ret := (some .boolean)) (by decide) rfl (Nat.le_of_ble_eq_true rfl) ?_
  intro pz ez sz mz below meth cz ls CF hr hlk hK hH hS hl
  have CF : CallFix pz mz cz cX9_findPlan 6 sz (List.toArray [.ref (G.2.1 29), .int (nI L)]) wsX9_findPlan RX9 := CF
  have hx := CF.1
  have hb := CF.2.1
  have hown := CF.2.2.2.1
  have hts := CF.2.2.2.2
  have hl : lv_has ls 6 [(0, .ref (G.2.1 29)), (1, .int (nI L))] := hl
  have K1 := hts _ (List.mem_of_getElem? (i := 1) rfl)
  have K2 := hts _ (List.mem_of_getElem? (i := 2) rfl)
  have K3 := hts _ (List.mem_of_getElem? (i := 3) rfl)
  have K4 := hts _ (List.mem_of_getElem? (i := 4) rfl)
  have K5 := hts _ (List.mem_of_getElem? (i := 5) rfl)
  have K6 := hts _ (List.mem_of_getElem? (i := 6) rfl)
  have JX9 : ∀ w ∈ wsX90, w ∈ wsX9_findPlan := in_r _ [40, 41, 42, 43, 44, 45, 46, 47, 48, 49, 50, 51, 52, 53, 54, 55, 56, 57, 58, 59] (by decide +kernel)
  have hRC := RC_le hR10 hC16
  refine lv_aload_n hx hb dX9_findPlan_0 rfl (lv_at hl 0 rfl) ?_
  refine r_callv hS (r_runV (n := 0) (As := []) (rest := []) CF hK hH (c_X9_layOutVisibility l G σ R C hR hC hR3 hR10 hC4 hC16) gX9_findPlan_X9_layOutVisibility rfl rfl rfl rfl (by decide +kernel) ⟨⟨Nat.le_of_ble_eq_true rfl, Nat.le_of_ble_eq_true rfl⟩, Nat.le_of_ble_eq_true rfl, Nat.le_of_ble_eq_true rfl⟩ 29 rfl (Nat.le_of_ble_eq_true rfl) rfl rfl rfl hl.1 rfl (Nat.le_of_ble_eq_true rfl) dX9_findPlan_1) (fun σ1 H locs hq hH hS => ?_)
  obtain ⟨hF0, hT0⟩ := hq
  refine lv_aload_n hx hb dX9_findPlan_4 rfl (lv_at hl 0 rfl) ?_
  refine lv_ldc (v := 100000000) hx hb hown K1 dX9_findPlan_5 ?_
  refine r_put CF hK hH hS 29 (Nat.le_of_ble_eq_true rfl) rfl rfl JX9 tyX9 tyX9_ok nmX9 16 (by decide) K2 rfl (by decide +kernel) (Nat.le_of_ble_eq_true rfl) rfl dX9_findPlan_7 (fun H locs hH hS => ?_)
  refine lv_aload_n hx hb dX9_findPlan_10 rfl (lv_at hl 0 rfl) ?_
  refine r_get CF hK hH 29 (Nat.le_of_ble_eq_true rfl) rfl rfl JX9 0 (by decide) K3 rfl dX9_findPlan_11 ?_
  refine r_top (show ((u2 σ1 29 16 (100000000 : Int32)) 29 0 : Int32) = nI (R - 0) from (by rw [show u2 σ1 29 16 100000000 29 0 = σ1 29 0 from rfl, hF0 29 (by omega)]; exact hR)) ?_
  refine lv_istore_n (lv' := [(2, .int (nI (R - 0))), (0, .ref (G.2.1 29)), (1, .int (nI L))]) hx hb dX9_findPlan_14 rfl hl (by decide) rfl (fun ls hl => ?_)
  have lp15 : ∀ (fu : Nat) (i : Nat) (σ2 : Sg) (H : Heap) (locs : List Loc) (ls : Array Slot), (R + 1 ≤ i + fu) → (i ≤ R) → (MFr σ σ2) → (SI (σ2 35) (σ 30) (cmM σ) C (R * C) (R * C) (0)) → (mbV σ2 (bsF (σ 30) (cmM σ) R C L (i * C))) → Hp G σ2 H → va_S (fr G) sz.heap H locs → lv_has ls 6 [(0, .ref (G.2.1 29)), (1, .int (nI L)), (2, .int (nI (R - i)))] → W pz l ez (rmO 4 103) sz mz (List.toArray [.ref (G.2.1 29), .int (nI L)]) below meth cz H locs 0 0 (MQ below (QI G (fun v σ' => v = b2i (bsF (σ 30) (cmM σ) R C L (R * C)).isSome ∧ MFr σ σ' ∧ mbV σ' (bsF (σ 30) (cmM σ) R C L (R * C)))) (List.toArray [.ref (G.2.1 29), .int (nI L)]) sz 0 0 (fr G)) (F0 mz 15 ls []) := by
    intro fu
    induction fu with
    | zero => intros; omega
    | succ fu ih15 =>
      intro i σ2 H locs ls hfu hi hF hT hV hH hS hl
      refine lv_iload_n hx hb dX9_findPlan_15 rfl (lv_at hl 2 rfl) ?_
      refine lv_if_le (tgt := 117) hx hb dX9_findPlan_16 (by decide) (fun c16 => ?_) (fun c16 => ?_)
      · have c16 : R - i ≤ 0 := (nI_leI (a := R - i) (b := 0) (by omega) (by omega)).mp c16
        refine lv_aload_n hx hb dX9_findPlan_117 rfl (lv_at hl 0 rfl) ?_
        refine r_get CF hK hH 29 (Nat.le_of_ble_eq_true rfl) rfl rfl JX9 16 (by decide) K2 rfl dX9_findPlan_118 ?_
        refine r_top (show (σ2 29 16 : Int32) = phO (bsF (σ 30) (cmM σ) R C L (R * C)) from (by have e : i = R := (by omega); rw [hV.1, e])) ?_
        refine lv_ldc (v := 100000000) hx hb hown K1 dX9_findPlan_121 ?_
        refine lv_icmp_ge (tgt := 130) hx hb dX9_findPlan_123 (by decide) (fun c123 => ?_) (fun c123 => ?_)
        · have hno : bsF (σ 30) (cmM σ) R C L (R * C) = none := (by cases hq : bsF (σ 30) (cmM σ) R C L (R * C) with | none => rfl | some a => rw [hq] at c123; exact absurd c123 (nI_never (bs_le hR10 hC16 (by omega) _ _ hq).1).2)
          refine lv_iconst (v := 0) hx hb dX9_findPlan_130 (by decide) ?_
          exact r_zret CF hr hlk hH hS rfl dX9_findPlan_131 ⟨by rw [hno]; rfl, hF, by have e : i = R := (by omega); subst e; exact hV⟩
        · have hno : (bsF (σ 30) (cmM σ) R C L (R * C)).isSome = true := (by cases hq : bsF (σ 30) (cmM σ) R C L (R * C) with | none => rw [hq] at c123; exact absurd (show (100000000 : Int32) ≤ 100000000 by decide) c123 | some a => rfl)
          refine lv_iconst (v := 1) hx hb dX9_findPlan_126 (by decide) ?_
          refine lv_goto (tgt := 131) hx hb dX9_findPlan_127 (by decide) ?_
          exact r_zret CF hr hlk hH hS rfl dX9_findPlan_131 ⟨by rw [hno]; rfl, hF, (show i = R by omega) ▸ hV⟩
      · have c16 : ¬ R - i ≤ 0 := fun zq => c16 ((nI_leI (a := R - i) (b := 0) (by omega) (by omega)).mpr zq)
        refine lv_aload_n hx hb dX9_findPlan_19 rfl (lv_at hl 0 rfl) ?_
        refine r_get CF hK hH 29 (Nat.le_of_ble_eq_true rfl) rfl rfl JX9 1 (by decide) K4 rfl dX9_findPlan_20 ?_
        refine r_top (show (σ2 29 1 : Int32) = nI (C - 0) from (by rw [hF.2 1 (by omega) (by omega) (by omega)]; exact hC)) ?_
        refine lv_istore_n (lv' := [(3, .int (nI (C - 0))), (0, .ref (G.2.1 29)), (1, .int (nI L)), (2, .int (nI (R - i)))]) hx hb dX9_findPlan_23 rfl hl (by decide) rfl (fun ls hl => ?_)
        have lp24 : ∀ (fv : Nat) (j : Nat) (σ2' : Sg) (H : Heap) (locs : List Loc) (ls : Array Slot), (C + 1 ≤ j + fv) → (j ≤ C) → (MFr σ σ2') → (SI (σ2' 35) (σ 30) (cmM σ) C (R * C) (R * C) (0)) → (mbV σ2' (bsF (σ 30) (cmM σ) R C L (i * C + j))) → Hp G σ2' H → va_S (fr G) sz.heap H locs → lv_has ls 6 [(0, .ref (G.2.1 29)), (1, .int (nI L)), (2, .int (nI (R - i))), (3, .int (nI (C - j)))] → W pz l ez (rmO 4 103) sz mz (List.toArray [.ref (G.2.1 29), .int (nI L)]) below meth cz H locs 0 0 (MQ below (QI G (fun v σ' => v = b2i (bsF (σ 30) (cmM σ) R C L (R * C)).isSome ∧ MFr σ σ' ∧ mbV σ' (bsF (σ 30) (cmM σ) R C L (R * C)))) (List.toArray [.ref (G.2.1 29), .int (nI L)]) sz 0 0 (fr G)) (F0 mz 24 ls []) := by
          intro fv
          induction fv with
          | zero => intros; omega
          | succ fv ih24 =>
            intro j σ2' H locs ls hg hj hF' hT' hV' hH hS hl
            refine lv_iload_n hx hb dX9_findPlan_24 rfl (lv_at hl 3 rfl) ?_
            refine lv_if_le (tgt := 111) hx hb dX9_findPlan_25 (by decide) (fun c25 => ?_) (fun c25 => ?_)
            · have c25 : C - j ≤ 0 := (nI_leI (a := C - j) (b := 0) (by omega) (by omega)).mp c25
              refine lv_iinc (v := nI (R - (i + 1))) (lv' := [(2, .int (nI (R - (i + 1)))), (0, .ref (G.2.1 29)), (1, .int (nI L)), (3, .int (nI (C - j)))]) hx hb dX9_findPlan_111 hl (k := 2) rfl (dec_nI (by omega)) (by decide) rfl (fun ls hl => ?_)
              refine lv_goto (tgt := 15) hx hb dX9_findPlan_114 (by decide) ?_
              exact ih15 (i + 1) σ2' _ _ ls (by omega) (by omega) hF' hT' (by have e : (i + 1) * C = i * C + j := (by have e2 : j = C := (by omega); rw [e2, Nat.succ_mul]); rw [e]; exact hV') hH hS (lv_sub hl [1, 2, 0] rfl)
            · have c25 : j < C := (by have q : ¬ C - j ≤ 0 := fun zq => c25 ((nI_leI (a := C - j) (b := 0) (by omega) (by omega)).mpr zq); omega)
              have hst := st_pb (fe := feF (σ 30) (cmM σ) R C L (R - i) (C - j)) (o := bsF (σ 30) (cmM σ) R C L (i * C + j)) (R - i) (C - j) (fun p hp => fe_le hR10 hC16 (by omega) hp) (fun a ha => (bs_le hR10 hC16 (by omega) _ _ ha).1)
              refine lv_aload_n hx hb dX9_findPlan_28 rfl (lv_at hl 0 rfl) ?_
              refine lv_iload_n hx hb dX9_findPlan_29 rfl (lv_at hl 1 rfl) ?_
              refine lv_iload_n hx hb dX9_findPlan_30 rfl (lv_at hl 2 rfl) ?_
              refine lv_iload_n hx hb dX9_findPlan_31 rfl (lv_at hl 3 rfl) ?_
              refine r_cR hS (r_runV (n := 3) (As := [.int (nI L), .int (nI (R - i)), .int (nI (C - j))]) (rest := []) CF hK hH (c_X9_photosBy l G σ2' R C (by rw [hF'.2 0 (by omega) (by omega) (by omega)]; exact hR) (by rw [hF'.2 1 (by omega) (by omega) (by omega)]; exact hC) hR3 hR10 hC4 hC16 (by rw [hF'.cm, hF'.1 30 (by omega) (by omega)]; exact hT') L (R - i) (C - j) hL9 (by omega) (by omega) (by omega) (by omega)) gX9_findPlan_X9_photosBy rfl rfl rfl rfl (by decide +kernel) ⟨⟨Nat.le_of_ble_eq_true rfl, Nat.le_of_ble_eq_true rfl⟩, Nat.le_of_ble_eq_true rfl, Nat.le_of_ble_eq_true rfl⟩ 29 rfl (Nat.le_of_ble_eq_true rfl) rfl rfl rfl hl.1 rfl (Nat.le_of_ble_eq_true rfl) dX9_findPlan_32) (fun H locs hH hS => ?_)
              refine r_top (show (pbF (feF (σ2' 30) (cmM σ2') R C L (R - i) (C - j)) : Int32) = pbF (feF (σ 30) (cmM σ) R C L (R - i) (C - j)) from (by rw [hF'.cm, hF'.1 30 (by omega) (by omega)])) ?_
              refine lv_istore (lv' := [(4, .int (pbF (feF (σ 30) (cmM σ) R C L (R - i) (C - j)))), (0, .ref (G.2.1 29)), (1, .int (nI L)), (2, .int (nI (R - i))), (3, .int (nI (C - j)))]) hx hb dX9_findPlan_35 hl (by decide) rfl (fun ls hl => ?_)
              refine lv_iload hx hb dX9_findPlan_37 (lv_at hl 0 rfl) ?_
              refine lv_aload_n hx hb dX9_findPlan_39 rfl (lv_at hl 1 rfl) ?_
              refine r_get CF hK hH 29 (Nat.le_of_ble_eq_true rfl) rfl rfl JX9 16 (by decide) K2 rfl dX9_findPlan_40 ?_
              refine r_top (show (σ2' 29 16 : Int32) = phO (bsF (σ 30) (cmM σ) R C L (i * C + j)) from hV'.1) ?_
              refine lv_icmp_ge (tgt := 50) hx hb dX9_findPlan_43 (by decide) (fun c43 => ?_) (fun c43 => ?_)
              · have c43 := Int32.not_lt.mpr c43
                refine lv_iconst (v := 0) hx hb dX9_findPlan_50 (by decide) ?_
                refine lv_istore (lv' := [(5, .int (0 : Int32)), (4, .int (pbF (feF (σ 30) (cmM σ) R C L (R - i) (C - j)))), (0, .ref (G.2.1 29)), (1, .int (nI L)), (2, .int (nI (R - i))), (3, .int (nI (C - j)))]) hx hb dX9_findPlan_51 hl (by decide) rfl (fun ls hl => ?_)
                refine lv_aload_n hx hb dX9_findPlan_53 rfl (lv_at hl 2 rfl) ?_
                refine lv_iload hx hb dX9_findPlan_54 (lv_at hl 0 rfl) ?_
                refine lv_if_eq (tgt := 63) hx hb dX9_findPlan_56 (by decide) (fun c56 => ?_) (fun c56 => ?_)
                · refine lv_aload_n hx hb dX9_findPlan_63 rfl (lv_at hl 2 rfl) ?_
                  refine r_get CF hK hH 29 (Nat.le_of_ble_eq_true rfl) rfl rfl JX9 17 (by decide) K5 rfl dX9_findPlan_64 ?_
                  refine r_put CF hK hH hS 29 (Nat.le_of_ble_eq_true rfl) rfl rfl JX9 tyX9 tyX9_ok nmX9 17 (by decide) K5 rfl (by decide +kernel) (Nat.le_of_ble_eq_true rfl) rfl dX9_findPlan_67 (fun H locs hH hS => ?_)
                  refine lv_aload_n hx hb dX9_findPlan_70 rfl (lv_at hl 2 rfl) ?_
                  refine lv_iload hx hb dX9_findPlan_71 (lv_at hl 0 rfl) ?_
                  refine lv_if_eq (tgt := 80) hx hb dX9_findPlan_73 (by decide) (fun c73 => ?_) (fun c73 => ?_)
                  · refine lv_aload_n hx hb dX9_findPlan_80 rfl (lv_at hl 2 rfl) ?_
                    refine r_get CF hK hH 29 (Nat.le_of_ble_eq_true rfl) rfl rfl JX9 18 (by decide) K6 rfl dX9_findPlan_81 ?_
                    refine r_put CF hK hH hS 29 (Nat.le_of_ble_eq_true rfl) rfl rfl JX9 tyX9 tyX9_ok nmX9 18 (by decide) K6 rfl (by decide +kernel) (Nat.le_of_ble_eq_true rfl) rfl dX9_findPlan_84 (fun H locs hH hS => ?_)
                    refine lv_aload_n hx hb dX9_findPlan_87 rfl (lv_at hl 2 rfl) ?_
                    refine lv_iload hx hb dX9_findPlan_88 (lv_at hl 0 rfl) ?_
                    refine lv_if_eq (tgt := 98) hx hb dX9_findPlan_90 (by decide) (fun c90 => ?_) (fun c90 => ?_)
                    · refine lv_aload_n hx hb dX9_findPlan_98 rfl (lv_at hl 2 rfl) ?_
                      refine r_get CF hK hH 29 (Nat.le_of_ble_eq_true rfl) rfl rfl JX9 16 (by decide) K2 rfl dX9_findPlan_99 ?_
                      refine r_put CF hK hH hS 29 (Nat.le_of_ble_eq_true rfl) rfl rfl JX9 tyX9 tyX9_ok nmX9 16 (by decide) K2 rfl (by decide +kernel) (Nat.le_of_ble_eq_true rfl) rfl dX9_findPlan_102 (fun H locs hH hS => ?_)
                      refine lv_iinc (v := nI (C - (j + 1))) (lv' := [(3, .int (nI (C - (j + 1)))), (5, .int (0 : Int32)), (4, .int (pbF (feF (σ 30) (cmM σ) R C L (R - i) (C - j)))), (0, .ref (G.2.1 29)), (1, .int (nI L)), (2, .int (nI (R - i)))]) hx hb dX9_findPlan_105 hl (k := 5) rfl (dec_nI (by omega)) (by decide) rfl (fun ls hl => ?_)
                      refine lv_goto (tgt := 24) hx hb dX9_findPlan_108 (by decide) ?_
                      exact ih24 (j + 1) (u2 (u2 (u2 σ2' 29 17 (σ2' 29 17)) 29 18 ((u2 σ2' 29 17 (σ2' 29 17)) 29 18)) 29 16 ((u2 (u2 σ2' 29 17 (σ2' 29 17)) 29 18 ((u2 σ2' 29 17 (σ2' 29 17)) 29 18)) 29 16)) _ _ ls (by omega) (by omega) ⟨fun k h1 h2 => by rw [u2_n _ _ _ h2, u2_n _ _ _ h2, u2_n _ _ _ h2]; exact hF'.1 k h1 h2, fun f h1 h2 h3 => by rw [u2_sn _ _ _ h1, u2_sn _ _ _ h3, u2_sn _ _ _ h2]; exact hF'.2 f h1 h2 h3⟩ hT' (by rw [show i * C + (j + 1) = i * C + j + 1 from rfl, bs_at _ _ _ _ _ c25, hst.2 c43]; exact ⟨hV'.1, fun a ha => ⟨(hV'.2 a ha).1, (hV'.2 a ha).2⟩⟩) hH hS (lv_sub hl [3, 4, 5, 0] rfl)
                    · exact absurd rfl c90
                  · exact absurd rfl c73
                · exact absurd rfl c56
              · have c43 := Int32.not_le.mp c43
                refine lv_iconst (v := 1) hx hb dX9_findPlan_46 (by decide) ?_
                refine lv_goto (tgt := 51) hx hb dX9_findPlan_47 (by decide) ?_
                refine lv_istore (lv' := [(5, .int (1 : Int32)), (4, .int (pbF (feF (σ 30) (cmM σ) R C L (R - i) (C - j)))), (0, .ref (G.2.1 29)), (1, .int (nI L)), (2, .int (nI (R - i))), (3, .int (nI (C - j)))]) hx hb dX9_findPlan_51 hl (by decide) rfl (fun ls hl => ?_)
                refine lv_aload_n hx hb dX9_findPlan_53 rfl (lv_at hl 2 rfl) ?_
                refine lv_iload hx hb dX9_findPlan_54 (lv_at hl 0 rfl) ?_
                refine lv_if_eq (tgt := 63) hx hb dX9_findPlan_56 (by decide) (fun c56 => ?_) (fun c56 => ?_)
                · exact absurd c56 (by decide)
                · refine lv_iload_n hx hb dX9_findPlan_59 rfl (lv_at hl 4 rfl) ?_
                  refine lv_goto (tgt := 67) hx hb dX9_findPlan_60 (by decide) ?_
                  refine r_put CF hK hH hS 29 (Nat.le_of_ble_eq_true rfl) rfl rfl JX9 tyX9 tyX9_ok nmX9 17 (by decide) K5 rfl (by decide +kernel) (Nat.le_of_ble_eq_true rfl) rfl dX9_findPlan_67 (fun H locs hH hS => ?_)
                  refine lv_aload_n hx hb dX9_findPlan_70 rfl (lv_at hl 2 rfl) ?_
                  refine lv_iload hx hb dX9_findPlan_71 (lv_at hl 0 rfl) ?_
                  refine lv_if_eq (tgt := 80) hx hb dX9_findPlan_73 (by decide) (fun c73 => ?_) (fun c73 => ?_)
                  · exact absurd c73 (by decide)
                  · refine lv_iload_n hx hb dX9_findPlan_76 rfl (lv_at hl 5 rfl) ?_
                    refine lv_goto (tgt := 84) hx hb dX9_findPlan_77 (by decide) ?_
                    refine r_put CF hK hH hS 29 (Nat.le_of_ble_eq_true rfl) rfl rfl JX9 tyX9 tyX9_ok nmX9 18 (by decide) K6 rfl (by decide +kernel) (Nat.le_of_ble_eq_true rfl) rfl dX9_findPlan_84 (fun H locs hH hS => ?_)
                    refine lv_aload_n hx hb dX9_findPlan_87 rfl (lv_at hl 2 rfl) ?_
                    refine lv_iload hx hb dX9_findPlan_88 (lv_at hl 0 rfl) ?_
                    refine lv_if_eq (tgt := 98) hx hb dX9_findPlan_90 (by decide) (fun c90 => ?_) (fun c90 => ?_)
                    · exact absurd c90 (by decide)
                    · refine lv_iload hx hb dX9_findPlan_93 (lv_at hl 1 rfl) ?_
                      refine lv_goto (tgt := 102) hx hb dX9_findPlan_95 (by decide) ?_
                      refine r_put CF hK hH hS 29 (Nat.le_of_ble_eq_true rfl) rfl rfl JX9 tyX9 tyX9_ok nmX9 16 (by decide) K2 rfl (by decide +kernel) (Nat.le_of_ble_eq_true rfl) rfl dX9_findPlan_102 (fun H locs hH hS => ?_)
                      refine lv_iinc (v := nI (C - (j + 1))) (lv' := [(3, .int (nI (C - (j + 1)))), (5, .int (1 : Int32)), (4, .int (pbF (feF (σ 30) (cmM σ) R C L (R - i) (C - j)))), (0, .ref (G.2.1 29)), (1, .int (nI L)), (2, .int (nI (R - i)))]) hx hb dX9_findPlan_105 hl (k := 5) rfl (dec_nI (by omega)) (by decide) rfl (fun ls hl => ?_)
                      refine lv_goto (tgt := 24) hx hb dX9_findPlan_108 (by decide) ?_
                      exact ih24 (j + 1) (u2 (u2 (u2 σ2' 29 17 (nI (R - i))) 29 18 (nI (C - j))) 29 16 (pbF (feF (σ 30) (cmM σ) R C L (R - i) (C - j)))) _ _ ls (by omega) (by omega) ⟨fun k h1 h2 => by rw [u2_n _ _ _ h2, u2_n _ _ _ h2, u2_n _ _ _ h2]; exact hF'.1 k h1 h2, fun f h1 h2 h3 => by rw [u2_sn _ _ _ h1, u2_sn _ _ _ h3, u2_sn _ _ _ h2]; exact hF'.2 f h1 h2 h3⟩ hT' (by obtain ⟨p, hp, hs⟩ := hst.1 c43; rw [show i * C + (j + 1) = i * C + j + 1 from rfl, bs_at _ _ _ _ _ c25, hs]; refine ⟨by show pbF (feF (σ 30) (cmM σ) R C L (R - i) (C - j)) = _; rw [hp]; rfl, fun a ha => ?_⟩; cases ha; exact ⟨rfl, rfl⟩) hH hS (lv_sub hl [3, 4, 5, 0] rfl)
        exact lp24 (C + 1) 0 σ2 _ _ ls (by omega) (by omega) hF hT hV hH hS (lv_sub hl [1, 2, 3, 0] rfl)
  exact lp15 (R + 1) 0 (u2 σ1 29 16 (100000000 : Int32)) _ _ ls (by omega) (by omega) ⟨fun k h1 h2 => (u2_n _ _ _ h2).trans (hF0 k h1), fun f h1 h2 h3 => (u2_sn _ _ _ h1).trans (by rw [hF0 29 (by omega)])⟩ hT0 (by rw [Nat.zero_mul]; exact ⟨rfl, fun a ha => by cases ha⟩) hH hS (lv_sub hl [1, 2, 0] rfl)

set_option maxRecDepth 100000 in
set_option maxHeartbeats 4000000 in
theorem c_X9_planPhotos (l : Launch) (G : Gm) (σ : Sg) (R C : Nat) (hR : σ 29 0 = nI R) (hC : σ 29 1 = nI C) (hR3 : 3 ≤ R) (hR10 : R ≤ 10) (hC4 : 4 ≤ C) (hC16 : C ≤ 16) (x : Int32) : Met l yX9_planPhotos wsX9_planPhotos (rmO 5 128) (PP G [.ref (G.2.1 29), .int x] σ) (QI G (fun v σ' => v = aPln R C (σ 30) (cmM σ) x (fun a => a.1) ∧ MFr σ σ')) 0 0 (fr G) := by
  refine r_start (cc := cX9_planPhotos) (maxL := 2) (ret := (some .int)) (by decide) rfl (Nat.le_of_ble_eq_true rfl) ?_
  intro pz ez sz mz below meth cz ls CF hr hlk hK hH hS hl
  have CF : CallFix pz mz cz cX9_planPhotos 2 sz (List.toArray [.ref (G.2.1 29), .int x]) wsX9_planPhotos RX9 := CF
  have hx := CF.1
  have hb := CF.2.1
  have hown := CF.2.2.2.1
  have hts := CF.2.2.2.2
  have hl : lv_has ls 2 [(0, .ref (G.2.1 29)), (1, .int x)] := hl
  have K1 := hts _ (List.mem_of_getElem? (i := 1) rfl)
  have JX9 : ∀ w ∈ wsX90, w ∈ wsX9_planPhotos := in_r _ [50, 51, 52, 53, 54, 55, 56, 57, 58, 59, 60, 61, 62, 63, 64, 65, 66, 67, 68, 69] (by decide +kernel)
  refine lv_iload_n hx hb dX9_planPhotos_0 rfl (lv_at hl 1 rfl) ?_
  refine r_cR hS (r_runS (n := 1) (As := [.int x]) (rest := []) CF hK hH (c_X9_isRequired l G σ x) gX9_planPhotos_X9_isRequired rfl rfl rfl (by decide +kernel) ⟨⟨Nat.le_of_ble_eq_true rfl, Nat.le_of_ble_eq_true rfl⟩, Nat.le_of_ble_eq_true rfl, Nat.le_of_ble_eq_true rfl⟩ rfl hl.1 rfl (Nat.le_of_ble_eq_true rfl) dX9_planPhotos_1) (fun H locs hH hS => ?_)
  refine r_ifneB (tgt := 12) hx hb dX9_planPhotos_4 (by decide) (fun c4 => ?_) (fun c4 => ?_)
  · obtain ⟨L, hL1, hL9, eL, eLN⟩ := isW_of (a := 1) (b := 9) c4 (by omega) (by omega)
    refine lv_aload_n hx hb dX9_planPhotos_12 rfl (lv_at hl 0 rfl) ?_
    refine lv_iload_n hx hb dX9_planPhotos_13 rfl (lv_at hl 1 rfl) ?_
    refine r_top (show (x : Int32) = nI L from eL) ?_
    refine r_calli hS (r_runV (n := 1) (As := [.int (nI L)]) (rest := []) CF hK hH (c_X9_findPlan l G σ R C hR hC hR3 hR10 hC4 hC16 L (by omega)) gX9_planPhotos_X9_findPlan rfl rfl rfl rfl (by decide +kernel) ⟨⟨Nat.le_of_ble_eq_true rfl, Nat.le_of_ble_eq_true rfl⟩, Nat.le_of_ble_eq_true rfl, Nat.le_of_ble_eq_true rfl⟩ 29 rfl (Nat.le_of_ble_eq_true rfl) rfl rfl rfl hl.1 rfl (Nat.le_of_ble_eq_true rfl) dX9_planPhotos_14) (fun r14 σ14 H locs hq hH hS => ?_)
    obtain ⟨hr1, hF, hV⟩ := hq
    refine r_top hr1 ?_
    refine r_ifeqB (tgt := 27) hx hb dX9_planPhotos_17 (by decide) (fun c17 => ?_) (fun c17 => ?_)
    · have ha : bsF (σ 30) (cmM σ) R C L (R * C) = none := (by cases hq : bsF (σ 30) (cmM σ) R C L (R * C) with | none => rfl | some a => rw [hq] at c17; cases c17)
      refine lv_bipush (v := (-6)) hx hb dX9_planPhotos_27 (by decide) ?_
      exact r_iret CF hr hlk hH hS dX9_planPhotos_29 ⟨by simp [aPln, c4, eLN, ha], hF⟩
    · obtain ⟨a, ha⟩ := Option.isSome_iff_exists.mp c17
      refine lv_aload_n hx hb dX9_planPhotos_20 rfl (lv_at hl 0 rfl) ?_
      refine r_get CF hK hH 29 (Nat.le_of_ble_eq_true rfl) rfl rfl JX9 16 (by decide) K1 rfl dX9_planPhotos_21 ?_
      refine r_top (show (σ14 29 16 : Int32) = nI a.1 from (by rw [hV.1, ha]; rfl)) ?_
      refine lv_goto (tgt := 29) hx hb dX9_planPhotos_24 (by decide) ?_
      exact r_iret CF hr hlk hH hS dX9_planPhotos_29 ⟨by simp [aPln, c4, eLN, ha], hF⟩
  · refine lv_bipush (v := (-4)) hx hb dX9_planPhotos_7 (by decide) ?_
    refine lv_goto (tgt := 29) hx hb dX9_planPhotos_9 (by decide) ?_
    exact r_iret CF hr hlk hH hS dX9_planPhotos_29 ⟨by simp [aPln, c4], fun _ _ _ => rfl, fun _ _ _ _ => rfl⟩

set_option maxRecDepth 100000 in
set_option maxHeartbeats 4000000 in
theorem c_X9_planRowSpacing (l : Launch) (G : Gm) (σ : Sg) (R C : Nat) (hR : σ 29 0 = nI R) (hC : σ 29 1 = nI C) (hR3 : 3 ≤ R) (hR10 : R ≤ 10) (hC4 : 4 ≤ C) (hC16 : C ≤ 16) (x : Int32) : Met l yX9_planRowSpacing wsX9_planRowSpacing (rmO 5 128) (PP G [.ref (G.2.1 29), .int x] σ) (QI G (fun v σ' => v = aPln R C (σ 30) (cmM σ) x (fun a => a.2.1) ∧ MFr σ σ')) 0 0 (fr G) := by
  refine r_start (cc := cX9_planRowSpacing) (maxL := 2) (ret := (some .int)) (by decide) rfl (Nat.le_of_ble_eq_true rfl) ?_
  intro pz ez sz mz below meth cz ls CF hr hlk hK hH hS hl
  have CF : CallFix pz mz cz cX9_planRowSpacing 2 sz (List.toArray [.ref (G.2.1 29), .int x]) wsX9_planRowSpacing RX9 := CF
  have hx := CF.1
  have hb := CF.2.1
  have hown := CF.2.2.2.1
  have hts := CF.2.2.2.2
  have hl : lv_has ls 2 [(0, .ref (G.2.1 29)), (1, .int x)] := hl
  have K1 := hts _ (List.mem_of_getElem? (i := 1) rfl)
  have JX9 : ∀ w ∈ wsX90, w ∈ wsX9_planRowSpacing := in_r _ [50, 51, 52, 53, 54, 55, 56, 57, 58, 59, 60, 61, 62, 63, 64, 65, 66, 67, 68, 69] (by decide +kernel)
  refine lv_iload_n hx hb dX9_planRowSpacing_0 rfl (lv_at hl 1 rfl) ?_
  refine r_cR hS (r_runS (n := 1) (As := [.int x]) (rest := []) CF hK hH (c_X9_isRequired l G σ x) gX9_planRowSpacing_X9_isRequired rfl rfl rfl (by decide +kernel) ⟨⟨Nat.le_of_ble_eq_true rfl, Nat.le_of_ble_eq_true rfl⟩, Nat.le_of_ble_eq_true rfl, Nat.le_of_ble_eq_true rfl⟩ rfl hl.1 rfl (Nat.le_of_ble_eq_true rfl) dX9_planRowSpacing_1) (fun H locs hH hS => ?_)
  refine r_ifneB (tgt := 12) hx hb dX9_planRowSpacing_4 (by decide) (fun c4 => ?_) (fun c4 => ?_)
  · obtain ⟨L, hL1, hL9, eL, eLN⟩ := isW_of (a := 1) (b := 9) c4 (by omega) (by omega)
    refine lv_aload_n hx hb dX9_planRowSpacing_12 rfl (lv_at hl 0 rfl) ?_
    refine lv_iload_n hx hb dX9_planRowSpacing_13 rfl (lv_at hl 1 rfl) ?_
    refine r_top (show (x : Int32) = nI L from eL) ?_
    refine r_calli hS (r_runV (n := 1) (As := [.int (nI L)]) (rest := []) CF hK hH (c_X9_findPlan l G σ R C hR hC hR3 hR10 hC4 hC16 L (by omega)) gX9_planRowSpacing_X9_findPlan rfl rfl rfl rfl (by decide +kernel) ⟨⟨Nat.le_of_ble_eq_true rfl, Nat.le_of_ble_eq_true rfl⟩, Nat.le_of_ble_eq_true rfl, Nat.le_of_ble_eq_true rfl⟩ 29 rfl (Nat.le_of_ble_eq_true rfl) rfl rfl rfl hl.1 rfl (Nat.le_of_ble_eq_true rfl) dX9_planRowSpacing_14) (fun r14 σ14 H locs hq hH hS => ?_)
    obtain ⟨hr1, hF, hV⟩ := hq
    refine r_top hr1 ?_
    refine r_ifeqB (tgt := 27) hx hb dX9_planRowSpacing_17 (by decide) (fun c17 => ?_) (fun c17 => ?_)
    · have ha : bsF (σ 30) (cmM σ) R C L (R * C) = none := (by cases hq : bsF (σ 30) (cmM σ) R C L (R * C) with | none => rfl | some a => rw [hq] at c17; cases c17)
      refine lv_bipush (v := (-6)) hx hb dX9_planRowSpacing_27 (by decide) ?_
      exact r_iret CF hr hlk hH hS dX9_planRowSpacing_29 ⟨by simp [aPln, c4, eLN, ha], hF⟩
    · obtain ⟨a, ha⟩ := Option.isSome_iff_exists.mp c17
      refine lv_aload_n hx hb dX9_planRowSpacing_20 rfl (lv_at hl 0 rfl) ?_
      refine r_get CF hK hH 29 (Nat.le_of_ble_eq_true rfl) rfl rfl JX9 17 (by decide) K1 rfl dX9_planRowSpacing_21 ?_
      refine r_top (show (σ14 29 17 : Int32) = nI a.2.1 from (hV.2 a ha).1) ?_
      refine lv_goto (tgt := 29) hx hb dX9_planRowSpacing_24 (by decide) ?_
      exact r_iret CF hr hlk hH hS dX9_planRowSpacing_29 ⟨by simp [aPln, c4, eLN, ha], hF⟩
  · refine lv_bipush (v := (-4)) hx hb dX9_planRowSpacing_7 (by decide) ?_
    refine lv_goto (tgt := 29) hx hb dX9_planRowSpacing_9 (by decide) ?_
    exact r_iret CF hr hlk hH hS dX9_planRowSpacing_29 ⟨by simp [aPln, c4], fun _ _ _ => rfl, fun _ _ _ _ => rfl⟩

set_option maxRecDepth 100000 in
set_option maxHeartbeats 4000000 in
theorem c_X9_planPhotoSpacing (l : Launch) (G : Gm) (σ : Sg) (R C : Nat) (hR : σ 29 0 = nI R) (hC : σ 29 1 = nI C) (hR3 : 3 ≤ R) (hR10 : R ≤ 10) (hC4 : 4 ≤ C) (hC16 : C ≤ 16) (x : Int32) : Met l yX9_planPhotoSpacing wsX9_planPhotoSpacing (rmO 5 128) (PP G [.ref (G.2.1 29), .int x] σ) (QI G (fun v σ' => v = aPln R C (σ 30) (cmM σ) x (fun a => a.2.2) ∧ MFr σ σ')) 0 0 (fr G) := by
  refine r_start (cc := cX9_planPhotoSpacing) (maxL := 2) (ret := (some .int)) (by decide) rfl (Nat.le_of_ble_eq_true rfl) ?_
  intro pz ez sz mz below meth cz ls CF hr hlk hK hH hS hl
  have CF : CallFix pz mz cz cX9_planPhotoSpacing 2 sz (List.toArray [.ref (G.2.1 29), .int x]) wsX9_planPhotoSpacing RX9 := CF
  have hx := CF.1
  have hb := CF.2.1
  have hown := CF.2.2.2.1
  have hts := CF.2.2.2.2
  have hl : lv_has ls 2 [(0, .ref (G.2.1 29)), (1, .int x)] := hl
  have K1 := hts _ (List.mem_of_getElem? (i := 1) rfl)
  have JX9 : ∀ w ∈ wsX90, w ∈ wsX9_planPhotoSpacing := in_r _ [50, 51, 52, 53, 54, 55, 56, 57, 58, 59, 60, 61, 62, 63, 64, 65, 66, 67, 68, 69] (by decide +kernel)
  refine lv_iload_n hx hb dX9_planPhotoSpacing_0 rfl (lv_at hl 1 rfl) ?_
  refine r_cR hS (r_runS (n := 1) (As := [.int x]) (rest := []) CF hK hH (c_X9_isRequired l G σ x) gX9_planPhotoSpacing_X9_isRequired rfl rfl rfl (by decide +kernel) ⟨⟨Nat.le_of_ble_eq_true rfl, Nat.le_of_ble_eq_true rfl⟩, Nat.le_of_ble_eq_true rfl, Nat.le_of_ble_eq_true rfl⟩ rfl hl.1 rfl (Nat.le_of_ble_eq_true rfl) dX9_planPhotoSpacing_1) (fun H locs hH hS => ?_)
  refine r_ifneB (tgt := 12) hx hb dX9_planPhotoSpacing_4 (by decide) (fun c4 => ?_) (fun c4 => ?_)
  · obtain ⟨L, hL1, hL9, eL, eLN⟩ := isW_of (a := 1) (b := 9) c4 (by omega) (by omega)
    refine lv_aload_n hx hb dX9_planPhotoSpacing_12 rfl (lv_at hl 0 rfl) ?_
    refine lv_iload_n hx hb dX9_planPhotoSpacing_13 rfl (lv_at hl 1 rfl) ?_
    refine r_top (show (x : Int32) = nI L from eL) ?_
    refine r_calli hS (r_runV (n := 1) (As := [.int (nI L)]) (rest := []) CF hK hH (c_X9_findPlan l G σ R C hR hC hR3 hR10 hC4 hC16 L (by omega)) gX9_planPhotoSpacing_X9_findPlan rfl rfl rfl rfl (by decide +kernel) ⟨⟨Nat.le_of_ble_eq_true rfl, Nat.le_of_ble_eq_true rfl⟩, Nat.le_of_ble_eq_true rfl, Nat.le_of_ble_eq_true rfl⟩ 29 rfl (Nat.le_of_ble_eq_true rfl) rfl rfl rfl hl.1 rfl (Nat.le_of_ble_eq_true rfl) dX9_planPhotoSpacing_14) (fun r14 σ14 H locs hq hH hS => ?_)
    obtain ⟨hr1, hF, hV⟩ := hq
    refine r_top hr1 ?_
    refine r_ifeqB (tgt := 27) hx hb dX9_planPhotoSpacing_17 (by decide) (fun c17 => ?_) (fun c17 => ?_)
    · have ha : bsF (σ 30) (cmM σ) R C L (R * C) = none := (by cases hq : bsF (σ 30) (cmM σ) R C L (R * C) with | none => rfl | some a => rw [hq] at c17; cases c17)
      refine lv_bipush (v := (-6)) hx hb dX9_planPhotoSpacing_27 (by decide) ?_
      exact r_iret CF hr hlk hH hS dX9_planPhotoSpacing_29 ⟨by simp [aPln, c4, eLN, ha], hF⟩
    · obtain ⟨a, ha⟩ := Option.isSome_iff_exists.mp c17
      refine lv_aload_n hx hb dX9_planPhotoSpacing_20 rfl (lv_at hl 0 rfl) ?_
      refine r_get CF hK hH 29 (Nat.le_of_ble_eq_true rfl) rfl rfl JX9 18 (by decide) K1 rfl dX9_planPhotoSpacing_21 ?_
      refine r_top (show (σ14 29 18 : Int32) = nI a.2.2 from (hV.2 a ha).2) ?_
      refine lv_goto (tgt := 29) hx hb dX9_planPhotoSpacing_24 (by decide) ?_
      exact r_iret CF hr hlk hH hS dX9_planPhotoSpacing_29 ⟨by simp [aPln, c4, eLN, ha], hF⟩
  · refine lv_bipush (v := (-4)) hx hb dX9_planPhotoSpacing_7 (by decide) ?_
    refine lv_goto (tgt := 29) hx hb dX9_planPhotoSpacing_9 (by decide) ?_
    exact r_iret CF hr hlk hH hS dX9_planPhotoSpacing_29 ⟨by simp [aPln, c4], fun _ _ _ => rfl, fun _ _ _ _ => rfl⟩

def mlay (σ : Sg) (rs ps C : Nat) : Nat → Sg
  | 0 => u2 σ 29 10 0
  | m + 1 => mput (mlay σ rs ps C m) m (nI (rs / 2 + m * rs)) 0 (nI (C - 1)) (nI ps)
theorem mput_n {σ : Sg} {n k : Nat} {a b c d : Int32} (h1 : ¬ (31 ≤ k ∧ k ≤ 34)) (h2 : k ≠ 29) : mput σ n a b c d k = σ k := by
  unfold mput
  rw [u2_n _ _ _ h2, u2_n _ _ _ (by omega), u2_n _ _ _ (by omega), u2_n _ _ _ (by omega), u2_n _ _ _ (by omega)]
theorem mput_f {σ : Sg} {n f : Nat} {a b c d : Int32} (h : f ≠ 10) : mput σ n a b c d 29 f = σ 29 f := by
  unfold mput
  rw [u2_sn _ _ _ h, u2_n _ _ _ (by omega), u2_n _ _ _ (by omega), u2_n _ _ _ (by omega), u2_n _ _ _ (by omega)]
theorem mlay_n {σ : Sg} {rs ps C : Nat} (m : Nat) {k : Nat} (h1 : ¬ (31 ≤ k ∧ k ≤ 34)) (h2 : k ≠ 29) : mlay σ rs ps C m k = σ k := by
  induction m with
  | zero => exact u2_n _ _ _ h2
  | succ m ih => rw [mlay, mput_n h1 h2, ih]
theorem mlay_f {σ : Sg} {rs ps C : Nat} (m : Nat) {f : Nat} (h : f ≠ 10) : mlay σ rs ps C m 29 f = σ 29 f := by
  induction m with
  | zero => exact u2_sn _ _ _ h
  | succ m ih => rw [mlay, mput_f h, ih]
theorem mlay_c (σ : Sg) (rs ps C m : Nat) : mlay σ rs ps C m 29 10 = nI m := by
  cases m with
  | zero => exact u2_ss _ _ _ _
  | succ m => rw [mlay]; unfold mput; exact u2_ss _ _ _ _

set_option maxRecDepth 100000 in
set_option maxHeartbeats 4000000 in
theorem c_X9_applyPlan (l : Launch) (G : Gm) (σ : Sg) (R C : Nat) (hR : σ 29 0 = nI R) (hC : σ 29 1 = nI C) (hR3 : 3 ≤ R) (hR10 : R ≤ 10) (hC4 : 4 ≤ C) (hC16 : C ≤ 16) (x : Int32) : Met l yX9_applyPlan wsX9_applyPlan (rmO 5 128) (PP G [.ref (G.2.1 29), .int x] σ) (QI G (fun v σ' => v = aPln R C (σ 30) (cmM σ) x (fun a => ndF R a.2.1) ∧ ∃ σ1, MFr σ σ1 ∧ (∀ a, isW x 1 9 = true → bsF (σ 30) (cmM σ) R C (NN x) (R * C) = some a → σ' = mlay σ1 a.2.1 a.2.2 C (ndF R a.2.1)) ∧ (isW x 1 9 = false ∨ bsF (σ 30) (cmM σ) R C (NN x) (R * C) = none → σ' = σ1))) 0 0 (fr G) := by
  refine r_start (cc := cX9_applyPlan) (maxL := 3) (ret := (some .int)) (by decide) rfl (Nat.le_of_ble_eq_true rfl) ?_
  intro pz ez sz mz below meth cz ls CF hr hlk hK hH hS hl
  have CF : CallFix pz mz cz cX9_applyPlan 3 sz (List.toArray [.ref (G.2.1 29), .int x]) wsX9_applyPlan RX9 := CF
  have hx := CF.1
  have hb := CF.2.1
  have hown := CF.2.2.2.1
  have hts := CF.2.2.2.2
  have hl : lv_has ls 3 [(0, .ref (G.2.1 29)), (1, .int x)] := hl
  have K1 := hts _ (List.mem_of_getElem? (i := 1) rfl)
  have K2 := hts _ (List.mem_of_getElem? (i := 2) rfl)
  have K3 := hts _ (List.mem_of_getElem? (i := 3) rfl)
  have K4 := hts _ (List.mem_of_getElem? (i := 4) rfl)
  have K5 := hts _ (List.mem_of_getElem? (i := 5) rfl)
  have JX9 : ∀ w ∈ wsX90, w ∈ wsX9_applyPlan := in_r _ [59, 60, 61, 62, 63, 64, 65, 66, 67, 68, 69, 70, 71, 72, 73, 74, 75, 76, 77, 78] (by decide +kernel)
  refine lv_iload_n hx hb dX9_applyPlan_0 rfl (lv_at hl 1 rfl) ?_
  refine r_cR hS (r_runS (n := 1) (As := [.int x]) (rest := []) CF hK hH (c_X9_isRequired l G σ x) gX9_applyPlan_X9_isRequired rfl rfl rfl (by decide +kernel) ⟨⟨Nat.le_of_ble_eq_true rfl, Nat.le_of_ble_eq_true rfl⟩, Nat.le_of_ble_eq_true rfl, Nat.le_of_ble_eq_true rfl⟩ rfl hl.1 rfl (Nat.le_of_ble_eq_true rfl) dX9_applyPlan_1) (fun H locs hH hS => ?_)
  refine r_ifneB (tgt := 10) hx hb dX9_applyPlan_4 (by decide) (fun c4 => ?_) (fun c4 => ?_)
  · obtain ⟨L, hL1, hL9, eL, eLN⟩ := isW_of (a := 1) (b := 9) c4 (by omega) (by omega)
    refine lv_aload_n hx hb dX9_applyPlan_10 rfl (lv_at hl 0 rfl) ?_
    refine lv_iload_n hx hb dX9_applyPlan_11 rfl (lv_at hl 1 rfl) ?_
    refine r_top (show (x : Int32) = nI L from eL) ?_
    refine r_calli hS (r_runV (n := 1) (As := [.int (nI L)]) (rest := []) CF hK hH (c_X9_findPlan l G σ R C hR hC hR3 hR10 hC4 hC16 L (by omega)) gX9_applyPlan_X9_findPlan rfl rfl rfl rfl (by decide +kernel) ⟨⟨Nat.le_of_ble_eq_true rfl, Nat.le_of_ble_eq_true rfl⟩, Nat.le_of_ble_eq_true rfl, Nat.le_of_ble_eq_true rfl⟩ 29 rfl (Nat.le_of_ble_eq_true rfl) rfl rfl rfl hl.1 rfl (Nat.le_of_ble_eq_true rfl) dX9_applyPlan_12) (fun r12 σ12 H locs hq hH hS => ?_)
    obtain ⟨hr1, hF, hV⟩ := hq
    refine r_top hr1 ?_
    refine r_ifneB (tgt := 21) hx hb dX9_applyPlan_15 (by decide) (fun c15 => ?_) (fun c15 => ?_)
    · obtain ⟨a, ha⟩ := Option.isSome_iff_exists.mp c15
      obtain ⟨b1, b2, b3, b4⟩ := bs_le hR10 hC16 (by omega) _ _ ha
      obtain ⟨b5, b6⟩ := bs_ok (by omega) _ (Nat.le_refl _) _ ha
      refine lv_aload_n hx hb dX9_applyPlan_21 rfl (lv_at hl 0 rfl) ?_
      refine lv_iconst (v := 0) hx hb dX9_applyPlan_22 (by decide) ?_
      refine r_put CF hK hH hS 29 (Nat.le_of_ble_eq_true rfl) rfl rfl JX9 tyX9 tyX9_ok nmX9 10 (by decide) K1 rfl (by decide +kernel) (Nat.le_of_ble_eq_true rfl) rfl dX9_applyPlan_23 (fun H locs hH hS => ?_)
      refine lv_aload_n hx hb dX9_applyPlan_26 rfl (lv_at hl 0 rfl) ?_
      refine r_get CF hK hH 29 (Nat.le_of_ble_eq_true rfl) rfl rfl JX9 17 (by decide) K2 rfl dX9_applyPlan_27 ?_
      refine r_top (show ((u2 σ12 29 10 (0 : Int32)) 29 17 : Int32) = nI a.2.1 from (hV.2 a ha).1) ?_
      refine lv_iconst (v := 2) hx hb dX9_applyPlan_30 (by decide) ?_
      refine lv_idiv hx hb dX9_applyPlan_31 (by decide) ?_
      refine r_top (show (((nI a.2.1) / (2 : Int32)) : Int32) = nI (a.2.1 / 2 + 0 * a.2.1) from (by rw [Nat.zero_mul]; exact half_nI (by omega))) ?_
      refine lv_istore_n (lv' := [(2, .int (nI (a.2.1 / 2 + 0 * a.2.1))), (0, .ref (G.2.1 29)), (1, .int x)]) hx hb dX9_applyPlan_32 rfl hl (by decide) rfl (fun ls hl => ?_)
      have lp33 : ∀ (fu : Nat) (m : Nat) (σ2 : Sg) (H : Heap) (locs : List Loc) (ls : Array Slot), (ndF R a.2.1 + 1 ≤ m + fu) → (m ≤ ndF R a.2.1) → (σ2 = mlay σ12 a.2.1 a.2.2 C (m)) → Hp G σ2 H → va_S (fr G) sz.heap H locs → lv_has ls 3 [(0, .ref (G.2.1 29)), (2, .int (nI (a.2.1 / 2 + m * a.2.1)))] → W pz l ez (rmO 5 128) sz mz (List.toArray [.ref (G.2.1 29), .int x]) below meth cz H locs 0 0 (MQ below (QI G (fun v σ' => v = aPln R C (σ 30) (cmM σ) x (fun a => ndF R a.2.1) ∧ ∃ σ1, MFr σ σ1 ∧ (∀ a, isW x 1 9 = true → bsF (σ 30) (cmM σ) R C (NN x) (R * C) = some a → σ' = mlay σ1 a.2.1 a.2.2 C (ndF R a.2.1)) ∧ (isW x 1 9 = false ∨ bsF (σ 30) (cmM σ) R C (NN x) (R * C) = none → σ' = σ1))) (List.toArray [.ref (G.2.1 29), .int x]) sz 0 0 (fr G)) (F0 mz 33 ls []) := by
        intro fu
        induction fu with
        | zero => intros; omega
        | succ fu ih33 =>
          intro m σ2 H locs ls hfu hm hσ hH hS hl
          have ha1000 : a.2.1 / 2 + m * a.2.1 < 1000 := (by have q : m * a.2.1 ≤ 8 * 10 := Nat.mul_le_mul (by omega) (by omega); omega)
          refine lv_iload_n hx hb dX9_applyPlan_33 rfl (lv_at hl 1 rfl) ?_
          refine lv_aload_n hx hb dX9_applyPlan_34 rfl (lv_at hl 0 rfl) ?_
          refine r_get CF hK hH 29 (Nat.le_of_ble_eq_true rfl) rfl rfl JX9 0 (by decide) K3 rfl dX9_applyPlan_35 ?_
          refine r_top (show (σ2 29 0 : Int32) = nI R from (by rw [hσ, mlay_f _ (by omega), hF.2 0 (by omega) (by omega) (by omega)]; exact hR)) ?_
          refine lv_icmp_ge (tgt := 67) hx hb dX9_applyPlan_38 (by decide) (fun c38 => ?_) (fun c38 => ?_)
          · have c38 : R ≤ (a.2.1 / 2 + m * a.2.1) := (nI_leI (a := R) (b := (a.2.1 / 2 + m * a.2.1)) (by omega) (by omega)).mp c38
            refine lv_aload_n hx hb dX9_applyPlan_67 rfl (lv_at hl 0 rfl) ?_
            refine r_get CF hK hH 29 (Nat.le_of_ble_eq_true rfl) rfl rfl JX9 10 (by decide) K1 rfl dX9_applyPlan_68 ?_
            refine r_top (show (σ2 29 10 : Int32) = nI (ndF R a.2.1) from (by rw [hσ, mlay_c]; congr 1; have q := nd_iff (a := m) b5 b2; omega)) ?_
            exact r_iret CF hr hlk hH hS dX9_applyPlan_71 ⟨by simp [aPln, c4, eLN, ha], σ12, hF, (fun b _ h2 => by rw [eLN, ha] at h2; cases h2; rw [hσ]; have q := nd_iff (a := m) b5 b2; have e : m = ndF R a.2.1 := (by omega); rw [e]), (by rintro (h1 | h1); rw [c4] at h1; cases h1; rw [eLN, ha] at h1; cases h1)⟩
          · have c38 : (a.2.1 / 2 + m * a.2.1) < R := Nat.lt_of_not_le (fun zq => c38 ((nI_leI (a := R) (b := (a.2.1 / 2 + m * a.2.1)) (by omega) (by omega)).mpr zq))
            have hmn := (nd_iff b5 b2).mpr c38
            refine lv_aload_n hx hb dX9_applyPlan_41 rfl (lv_at hl 0 rfl) ?_
            refine lv_iload_n hx hb dX9_applyPlan_42 rfl (lv_at hl 1 rfl) ?_
            refine lv_iconst (v := 0) hx hb dX9_applyPlan_43 (by decide) ?_
            refine lv_aload_n hx hb dX9_applyPlan_44 rfl (lv_at hl 0 rfl) ?_
            refine r_get CF hK hH 29 (Nat.le_of_ble_eq_true rfl) rfl rfl JX9 1 (by decide) K4 rfl dX9_applyPlan_45 ?_
            refine r_top (show (σ2 29 1 : Int32) = nI C from (by rw [hσ, mlay_f _ (by omega), hF.2 1 (by omega) (by omega) (by omega)]; exact hC)) ?_
            refine lv_iconst (v := 1) hx hb dX9_applyPlan_48 (by decide) ?_
            refine lv_isub hx hb dX9_applyPlan_49 ?_
            refine r_top (show (((nI C) - (1 : Int32)) : Int32) = nI (C - 1) from (pk_sub (b := 1) (by omega))) ?_
            refine lv_aload_n hx hb dX9_applyPlan_50 rfl (lv_at hl 0 rfl) ?_
            refine r_get CF hK hH 29 (Nat.le_of_ble_eq_true rfl) rfl rfl JX9 18 (by decide) K5 rfl dX9_applyPlan_51 ?_
            refine r_top (show (σ2 29 18 : Int32) = nI a.2.2 from (by rw [hσ, mlay_f _ (by omega)]; exact (hV.2 a ha).2)) ?_
            refine r_cV hS (r_runV (n := 4) (As := [.int (nI (a.2.1 / 2 + m * a.2.1)), .int (0 : Int32), .int (nI (C - 1)), .int (nI a.2.2)]) (rest := []) CF hK hH (c_X9_put l G σ2 m (by rw [hσ]; exact mlay_c _ _ _ _ _) (by omega) (nI (a.2.1 / 2 + m * a.2.1)) (0 : Int32) (nI (C - 1)) (nI a.2.2)) gX9_applyPlan_X9_put rfl rfl rfl rfl (by decide +kernel) ⟨⟨Nat.le_of_ble_eq_true rfl, Nat.le_of_ble_eq_true rfl⟩, Nat.le_of_ble_eq_true rfl, Nat.le_of_ble_eq_true rfl⟩ 29 rfl (Nat.le_of_ble_eq_true rfl) rfl rfl rfl hl.1 rfl (Nat.le_of_ble_eq_true rfl) dX9_applyPlan_54) (fun H locs hH hS => ?_)
            refine lv_iload_n hx hb dX9_applyPlan_57 rfl (lv_at hl 1 rfl) ?_
            refine lv_aload_n hx hb dX9_applyPlan_58 rfl (lv_at hl 0 rfl) ?_
            refine r_get CF hK hH 29 (Nat.le_of_ble_eq_true rfl) rfl rfl JX9 17 (by decide) K2 rfl dX9_applyPlan_59 ?_
            refine r_top (show ((mput σ2 m (nI (a.2.1 / 2 + m * a.2.1)) (0 : Int32) (nI (C - 1)) (nI a.2.2)) 29 17 : Int32) = nI a.2.1 from (by rw [hσ]; show mlay _ _ _ _ (m + 1) 29 17 = _; rw [mlay_f _ (by omega)]; exact (hV.2 a ha).1)) ?_
            refine lv_iadd hx hb dX9_applyPlan_62 ?_
            refine r_top (show (((nI (a.2.1 / 2 + m * a.2.1)) + (nI a.2.1)) : Int32) = nI (a.2.1 / 2 + (m + 1) * a.2.1) from (by rw [nI_add, Nat.succ_mul, Nat.add_assoc])) ?_
            refine lv_istore_n (lv' := [(2, .int (nI (a.2.1 / 2 + (m + 1) * a.2.1))), (0, .ref (G.2.1 29))]) hx hb dX9_applyPlan_63 rfl hl (by decide) rfl (fun ls hl => ?_)
            refine lv_goto (tgt := 33) hx hb dX9_applyPlan_64 (by decide) ?_
            exact ih33 (m + 1) (mput σ2 m (nI (a.2.1 / 2 + m * a.2.1)) (0 : Int32) (nI (C - 1)) (nI a.2.2)) _ _ ls (by omega) (by omega) (by rw [hσ]; rfl) hH hS (lv_sub hl [1, 0] rfl)
      exact lp33 (ndF R a.2.1 + 1) 0 (u2 σ12 29 10 (0 : Int32)) _ _ ls (by omega) (by omega) rfl hH hS (lv_sub hl [1, 0] rfl)
    · have ha : bsF (σ 30) (cmM σ) R C L (R * C) = none := (by cases hq : bsF (σ 30) (cmM σ) R C L (R * C) with | none => rfl | some a => rw [hq] at c15; cases c15)
      refine lv_bipush (v := (-6)) hx hb dX9_applyPlan_18 (by decide) ?_
      exact r_iret CF hr hlk hH hS dX9_applyPlan_20 ⟨by simp [aPln, c4, eLN, ha], σ12, hF, (fun b _ h2 => by rw [eLN, ha] at h2; cases h2), fun _ => rfl⟩
  · refine lv_bipush (v := (-4)) hx hb dX9_applyPlan_7 (by decide) ?_
    exact r_iret CF hr hlk hH hS dX9_applyPlan_9 ⟨by simp [aPln, c4], σ, ⟨fun _ _ _ => rfl, fun _ _ _ _ => rfl⟩, (fun a h1 => by rw [c4] at h1; cases h1), fun _ => rfl⟩
