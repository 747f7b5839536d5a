/-! ===== raising a hill ===== -/
def rzV (ht : Int32) (rad d : Nat) (h : Int32) : Int32 := if h + ht * nI (rad + 1 - d) / nI (rad + 1) < 999 then h + ht * nI (rad + 1 - d) / nI (rad + 1) else 999
def rzS (C row col rad : Nat) (ht : Int32) (g : Nat → Int32) : Nat → (Nat → Int32) × Nat
  | 0 => (g, 0)
  | m + 1 => if mx (ad1 (m / C) row) (ad1 (m % C) col) ≤ rad then
      (va_up (rzS C row col rad ht g m).1 (16 * (m / C) + m % C) (rzV ht rad (mx (ad1 (m / C) row) (ad1 (m % C) col)) ((rzS C row col rad ht g m).1 (16 * (m / C) + m % C))), (rzS C row col rad ht g m).2 + (if rzV ht rad (mx (ad1 (m / C) row) (ad1 (m % C) col)) ((rzS C row col rad ht g m).1 (16 * (m / C) + m % C)) = (rzS C row col rad ht g m).1 (16 * (m / C) + m % C) then 0 else 1))
    else rzS C row col rad ht g m
theorem rzS_f {C row col rad : Nat} {ht : Int32} {g : Nat → Int32} {i j : Nat} (hj : j < C) (h : ¬ mx (ad1 i row) (ad1 j col) ≤ rad) : rzS C row col rad ht g (i * C + j + 1) = rzS C row col rad ht g (i * C + j) := by
  simp only [rzS]
  rw [dm1 hj, dm2 hj, if_neg h]
theorem rzS_t {C row col rad : Nat} {ht : Int32} {g : Nat → Int32} {i j : Nat} (hj : j < C) (h : mx (ad1 i row) (ad1 j col) ≤ rad) : rzS C row col rad ht g (i * C + j + 1) = (va_up (rzS C row col rad ht g (i * C + j)).1 (16 * i + j) (rzV ht rad (mx (ad1 i row) (ad1 j col)) ((rzS C row col rad ht g (i * C + j)).1 (16 * i + j))), (rzS C row col rad ht g (i * C + j)).2 + (if rzV ht rad (mx (ad1 i row) (ad1 j col)) ((rzS C row col rad ht g (i * C + j)).1 (16 * i + j)) = (rzS C row col rad ht g (i * C + j)).1 (16 * i + j) then 0 else 1)) := by
  simp only [rzS]
  rw [dm1 hj, dm2 hj, if_pos h]
theorem rz_rise {ht : Int32} {rad d : Nat} (hr : rad ≤ 5) (hd : d ≤ rad) : quo (ht * (nI rad + 1 - nI d)) (nI rad + 1) = ht * nI (rad + 1 - d) / nI (rad + 1) := by
  rw [nI_1, pk_sub (by omega)]
  unfold quo
  rw [if_neg (nI_nle (by omega) (by omega))]
theorem mx_lt {a b c d : Nat} (h1 : a < 10) (h2 : b < 10) (h3 : c < 16) (h4 : d < 16) : mx (ad1 a b) (ad1 c d) < 16 := by unfold mx ad1; split <;> omega
theorem dist_nI {i j row col : Nat} (h1 : i < 10) (h2 : row < 10) (h3 : j < 16) (h4 : col < 16) : (if ab (nI i - nI row) < ab (nI j - nI col) then ab (nI j - nI col) else ab (nI i - nI row)) = nI (mx (ad1 i row) (ad1 j col)) := by
  rw [ab_nI (by omega) (by omega), ab_nI (by omega) (by omega)]
  have a1 : ad1 i row < 100 := by unfold ad1; omega
  have a2 : ad1 j col < 100 := by unfold ad1; omega
  exact mx_nI (by omega) (by omega)

set_option maxRecDepth 100000 in
set_option maxHeartbeats 4000000 in
theorem c_X7_raise (l : Launch) (G : Gm) (σ : Sg) (R C : Nat) (hR : σ 21 0 = nI R) (hC : σ 21 1 = nI C) (hR10 : R ≤ 10) (hC16 : C ≤ 16) (row col rad : Nat) (ht : Int32) (hro : row < 10) (hco : col < 16) (hra : rad ≤ 5) : Met l yX7_raise wsX7_raise (rmO 1 24) (PP G [.ref (G.2.1 21), .int (nI row), .int (nI col), .int (nI rad), .int ht] σ) (QI G (RV (nI (rzS C row col rad ht (σ 22) (R * C)).2) (va_up σ 22 (rzS C row col rad ht (σ 22) (R * C)).1))) 0 0 (fr G) := by
  refine r_start (cc := cX7_raise) (maxL := 12) (ret := (some .int)) (by decide) rfl (Nat.le_of_ble_eq_true rfl) ?_
  intro pz ez sz mz below meth cz ls CF hr hlk hK hH hS hl
  have CF : CallFix pz mz cz cX7_raise 12 sz (List.toArray [.ref (G.2.1 21), .int (nI row), .int (nI col), .int (nI rad), .int ht]) wsX7_raise RX7 := CF
  have hx := CF.1
  have hb := CF.2.1
  have hown := CF.2.2.2.1
  have hts := CF.2.2.2.2
  have hl : lv_has ls 12 [(0, .ref (G.2.1 21)), (1, .int (nI row)), (2, .int (nI col)), (3, .int (nI rad)), (4, .int ht)] := hl
  have K1 := hts _ (List.mem_of_getElem? (i := 1) rfl)
  have K2 := hts _ (List.mem_of_getElem? (i := 2) rfl)
  have K3 := hts _ (List.mem_of_getElem? (i := 3) rfl)
  have K4 := hts _ (List.mem_of_getElem? (i := 4) rfl)
  have K5 := hts _ (List.mem_of_getElem? (i := 5) rfl)
  have K6 := hts _ (List.mem_of_getElem? (i := 6) rfl)
  have K7 := hts _ (List.mem_of_getElem? (i := 7) rfl)
  have K8 := hts _ (List.mem_of_getElem? (i := 8) rfl)
  have K9 := hts _ (List.mem_of_getElem? (i := 9) rfl)
  have K10 := hts _ (List.mem_of_getElem? (i := 10) rfl)
  have K11 := hts _ (List.mem_of_getElem? (i := 11) rfl)
  have K12 := hts _ (List.mem_of_getElem? (i := 12) rfl)
  have K13 := hts _ (List.mem_of_getElem? (i := 13) rfl)
  have K14 := hts _ (List.mem_of_getElem? (i := 14) rfl)
  have JX7 : ∀ w ∈ wsX70, w ∈ wsX7_raise := in_r _ [26, 27, 28] (by decide +kernel)
  refine lv_iconst (v := 0) hx hb dX7_raise_0 (by decide) ?_
  refine lv_istore (lv' := [(5, .int (0 : Int32)), (0, .ref (G.2.1 21)), (1, .int (nI row)), (2, .int (nI col)), (3, .int (nI rad)), (4, .int ht)]) hx hb dX7_raise_1 hl (by decide) rfl (fun ls hl => ?_)
  refine lv_iconst (v := 0) hx hb dX7_raise_3 (by decide) ?_
  refine lv_istore (lv' := [(6, .int (0 : Int32)), (5, .int (0 : Int32)), (0, .ref (G.2.1 21)), (1, .int (nI row)), (2, .int (nI col)), (3, .int (nI rad)), (4, .int ht)]) hx hb dX7_raise_4 hl (by decide) rfl (fun ls hl => ?_)
  have lp6 : ∀ (fu : Nat) (i : Nat) (x5 : Int32) (σ1 : Sg) (H : Heap) (locs : List Loc) (ls : Array Slot), (R + 1 ≤ i + fu) → (i ≤ R) → (x5 = nI (rzS C row col rad ht (σ 22) (i * C)).2) → (σ1 = va_up σ 22 (rzS C row col rad ht (σ 22) (i * C)).1) → Hp G σ1 H → va_S (fr G) sz.heap H locs → lv_has ls 12 [(0, .ref (G.2.1 21)), (1, .int (nI row)), (2, .int (nI col)), (3, .int (nI rad)), (4, .int ht), (5, .int x5), (6, .int (nI i))] → W pz l ez (rmO 1 24) sz mz (List.toArray [.ref (G.2.1 21), .int (nI row), .int (nI col), .int (nI rad), .int ht]) below meth cz H locs 0 0 (MQ below (QI G (RV (nI (rzS C row col rad ht (σ 22) (R * C)).2) (va_up σ 22 (rzS C row col rad ht (σ 22) (R * C)).1))) (List.toArray [.ref (G.2.1 21), .int (nI row), .int (nI col), .int (nI rad), .int ht]) sz 0 0 (fr G)) (F0 mz 6 ls []) := by
    intro fu
    induction fu with
    | zero => intros; omega
    | succ fu ih6 =>
      intro i x5 σ1 H locs ls hf hi hz hσ hH hS hl
      refine lv_iload hx hb dX7_raise_6 (lv_at hl 6 rfl) ?_
      refine lv_aload_n hx hb dX7_raise_8 rfl (lv_at hl 0 rfl) ?_
      refine r_get CF hK hH 21 (Nat.le_of_ble_eq_true rfl) rfl rfl JX7 0 (by decide) K1 rfl dX7_raise_9 ?_
      refine r_top (show (σ1 21 0 : Int32) = nI R from (by rw [hσ]; exact hR)) ?_
      refine lv_icmp_ge (tgt := 131) hx hb dX7_raise_12 (by decide) (fun c12 => ?_) (fun c12 => ?_)
      · have c12 : R ≤ i := (nI_leI (a := R) (b := i) (by omega) (by omega)).mp c12
        refine lv_iload hx hb dX7_raise_131 (lv_at hl 5 rfl) ?_
        exact r_iret CF hr hlk hH hS dX7_raise_133 ⟨by have e : i = R := (by omega); rw [hz, e], by have e : i = R := (by omega); rw [hσ, e]⟩
      · have c12 : i < R := Nat.lt_of_not_le (fun zq => c12 ((nI_leI (a := R) (b := i) (by omega) (by omega)).mpr zq))
        refine lv_iconst (v := 0) hx hb dX7_raise_15 (by decide) ?_
        refine lv_istore (lv' := [(7, .int (0 : Int32)), (0, .ref (G.2.1 21)), (1, .int (nI row)), (2, .int (nI col)), (3, .int (nI rad)), (4, .int ht), (5, .int x5), (6, .int (nI i))]) hx hb dX7_raise_16 hl (by decide) rfl (fun ls hl => ?_)
        have lp18 : ∀ (fv : Nat) (j : Nat) (y5 : Int32) (σ1' : Sg) (H : Heap) (locs : List Loc) (ls : Array Slot), (C + 1 ≤ j + fv) → (j ≤ C) → (y5 = nI (rzS C row col rad ht (σ 22) ((i * C + j))).2) → (σ1' = va_up σ 22 (rzS C row col rad ht (σ 22) ((i * C + j))).1) → Hp G σ1' H → va_S (fr G) sz.heap H locs → lv_has ls 12 [(0, .ref (G.2.1 21)), (1, .int (nI row)), (2, .int (nI col)), (3, .int (nI rad)), (4, .int ht), (5, .int y5), (6, .int (nI i)), (7, .int (nI j))] → W pz l ez (rmO 1 24) sz mz (List.toArray [.ref (G.2.1 21), .int (nI row), .int (nI col), .int (nI rad), .int ht]) below meth cz H locs 0 0 (MQ below (QI G (RV (nI (rzS C row col rad ht (σ 22) (R * C)).2) (va_up σ 22 (rzS C row col rad ht (σ 22) (R * C)).1))) (List.toArray [.ref (G.2.1 21), .int (nI row), .int (nI col), .int (nI rad), .int ht]) sz 0 0 (fr G)) (F0 mz 18 ls []) := by
          intro fv
          induction fv with
          | zero => intros; omega
          | succ fv ih18 =>
            intro j y5 σ1' H locs ls hg hj hz' hσ' hH hS hl
            refine lv_iload hx hb dX7_raise_18 (lv_at hl 7 rfl) ?_
            refine lv_aload_n hx hb dX7_raise_20 rfl (lv_at hl 0 rfl) ?_
            refine r_get CF hK hH 21 (Nat.le_of_ble_eq_true rfl) rfl rfl JX7 1 (by decide) K2 rfl dX7_raise_21 ?_
            refine r_top (show (σ1' 21 1 : Int32) = nI C from (by rw [hσ']; exact hC)) ?_
            refine lv_icmp_ge (tgt := 125) hx hb dX7_raise_24 (by decide) (fun c24 => ?_) (fun c24 => ?_)
            · have c24 : C ≤ j := (nI_leI (a := C) (b := j) (by omega) (by omega)).mp c24
              refine lv_iinc (v := nI (i + 1)) (lv' := [(6, .int (nI (i + 1))), (0, .ref (G.2.1 21)), (1, .int (nI row)), (2, .int (nI col)), (3, .int (nI rad)), (4, .int ht), (5, .int y5), (7, .int (nI j))]) hx hb dX7_raise_125 hl (k := 6) rfl (nI_1 _) (by decide) rfl (fun ls hl => ?_)
              refine lv_goto (tgt := 6) hx hb dX7_raise_128 (by decide) ?_
              exact ih6 (i + 1) y5 σ1' _ _ ls (by omega) (by omega) (by have e : (i + 1) * C = i * C + j := (by have e2 : j = C := (by omega); rw [e2, Nat.succ_mul]); rw [e]; exact hz') (by have e : (i + 1) * C = i * C + j := (by have e2 : j = C := (by omega); rw [e2, Nat.succ_mul]); rw [e]; exact hσ') hH hS (lv_sub hl [1, 2, 3, 4, 5, 6, 0] rfl)
            · have c24 : j < C := Nat.lt_of_not_le (fun zq => c24 ((nI_leI (a := C) (b := j) (by omega) (by omega)).mpr zq))
              have hmx := mx_lt (show i < 10 by omega) hro (show j < 16 by omega) hco
              refine lv_iload hx hb dX7_raise_27 (lv_at hl 6 rfl) ?_
              refine lv_iload_n hx hb dX7_raise_29 rfl (lv_at hl 1 rfl) ?_
              refine lv_isub hx hb dX7_raise_30 ?_
              refine va_mabs hx hb (by rw [CF.2.2.1]; exact hl.1.symm) hown K3 K4 K5 K6 (Nat.le_of_ble_eq_true rfl) (Nat.le_of_ble_eq_true rfl) (Nat.le_of_ble_eq_true rfl) (Nat.le_of_ble_eq_true rfl) dX7_raise_31 ?_
              refine r_top (show ((if 0 ≤ ((nI i) - (nI row)) then ((nI i) - (nI row)) else 0 - ((nI i) - (nI row))) : Int32) = ab (nI i - nI row) from ab_m _) ?_
              refine lv_iload hx hb dX7_raise_34 (lv_at hl 7 rfl) ?_
              refine lv_iload_n hx hb dX7_raise_36 rfl (lv_at hl 2 rfl) ?_
              refine lv_isub hx hb dX7_raise_37 ?_
              refine va_mabs hx hb (by rw [CF.2.2.1]; exact hl.1.symm) hown K3 K4 K5 K6 (Nat.le_of_ble_eq_true rfl) (Nat.le_of_ble_eq_true rfl) (Nat.le_of_ble_eq_true rfl) (Nat.le_of_ble_eq_true rfl) dX7_raise_38 ?_
              refine r_top (show ((if 0 ≤ ((nI j) - (nI col)) then ((nI j) - (nI col)) else 0 - ((nI j) - (nI col))) : Int32) = ab (nI j - nI col) from ab_m _) ?_
              refine va_mmax hx hb (by rw [CF.2.2.1]; exact hl.1.symm) hown K7 K8 K5 K9 (Nat.le_of_ble_eq_true rfl) (Nat.le_of_ble_eq_true rfl) (Nat.le_of_ble_eq_true rfl) (Nat.le_of_ble_eq_true rfl) dX7_raise_41 ?_
              refine r_top (show ((if (ab (nI i - nI row)) < (ab (nI j - nI col)) then (ab (nI j - nI col)) else (ab (nI i - nI row))) : Int32) = nI (mx (ad1 i row) (ad1 j col)) from dist_nI (by omega) hro (by omega) hco) ?_
              refine lv_istore (lv' := [(8, .int (nI (mx (ad1 i row) (ad1 j col)))), (0, .ref (G.2.1 21)), (1, .int (nI row)), (2, .int (nI col)), (3, .int (nI rad)), (4, .int ht), (5, .int y5), (6, .int (nI i)), (7, .int (nI j))]) hx hb dX7_raise_44 hl (by decide) rfl (fun ls hl => ?_)
              refine lv_iload hx hb dX7_raise_46 (lv_at hl 0 rfl) ?_
              refine lv_iload_n hx hb dX7_raise_48 rfl (lv_at hl 4 rfl) ?_
              refine lv_icmp_gt (tgt := 119) hx hb dX7_raise_49 (by decide) (fun c49 => ?_) (fun c49 => ?_)
              · have c49 : ¬ mx (ad1 i row) (ad1 j col) ≤ rad := Nat.not_le.mpr ((nI_ltI (by omega) (by omega)).mp c49)
                refine lv_iinc (v := nI (j + 1)) (lv' := [(7, .int (nI (j + 1))), (8, .int (nI (mx (ad1 i row) (ad1 j col)))), (0, .ref (G.2.1 21)), (1, .int (nI row)), (2, .int (nI col)), (3, .int (nI rad)), (4, .int ht), (5, .int y5), (6, .int (nI i))]) hx hb dX7_raise_119 hl (k := 8) rfl (nI_1 _) (by decide) rfl (fun ls hl => ?_)
                refine lv_goto (tgt := 18) hx hb dX7_raise_122 (by decide) ?_
                exact ih18 (j + 1) y5 σ1' _ _ ls (by omega) (by omega) (by rw [show i * C + (j + 1) = i * C + j + 1 from rfl, rzS_f c24 c49]; exact hz') (by rw [show i * C + (j + 1) = i * C + j + 1 from rfl, rzS_f c24 c49]; exact hσ') hH hS (lv_sub hl [2, 3, 4, 5, 6, 7, 8, 0] rfl)
              · have c49 : mx (ad1 i row) (ad1 j col) ≤ rad := Nat.le_of_not_lt (fun zq => c49 (nI_lt zq (by omega)))
                refine lv_iload hx hb dX7_raise_52 (lv_at hl 5 rfl) ?_
                refine lv_iload_n hx hb dX7_raise_54 rfl (lv_at hl 4 rfl) ?_
                refine lv_iconst (v := 1) hx hb dX7_raise_55 (by decide) ?_
                refine lv_iadd hx hb dX7_raise_56 ?_
                refine lv_iload hx hb dX7_raise_57 (lv_at hl 0 rfl) ?_
                refine lv_isub hx hb dX7_raise_59 ?_
                refine lv_imul hx hb dX7_raise_60 ?_
                refine lv_iload_n hx hb dX7_raise_61 rfl (lv_at hl 4 rfl) ?_
                refine lv_iconst (v := 1) hx hb dX7_raise_62 (by decide) ?_
                refine lv_iadd hx hb dX7_raise_63 ?_
                refine r_cR hS (r_runN (n := 2) (As := [.int (ht * (((nI rad) + (1 : Int32)) - (nI (mx (ad1 i row) (ad1 j col))))), .int ((nI rad) + (1 : Int32))]) (rest := []) CF hK hH (c_X8_quotient l G σ1' (ht * (((nI rad) + (1 : Int32)) - (nI (mx (ad1 i row) (ad1 j col))))) ((nI rad) + (1 : Int32))) gX7_raise_X8_quotient_n32 rfl rfl rfl hK.2.2.1 K14 K13 (by decide +kernel) ⟨⟨Nat.le_of_ble_eq_true rfl, Nat.le_of_ble_eq_true rfl⟩, Nat.le_of_ble_eq_true rfl, Nat.le_of_ble_eq_true rfl⟩ rfl hl.1 rfl (Nat.le_of_ble_eq_true rfl) dX7_raise_64) (fun H locs hH hS => ?_)
                refine r_top (show (quo (ht * (((nI rad) + (1 : Int32)) - (nI (mx (ad1 i row) (ad1 j col))))) ((nI rad) + (1 : Int32)) : Int32) = ht * nI (rad + 1 - mx (ad1 i row) (ad1 j col)) / nI (rad + 1) from rz_rise hra c49) ?_
                refine lv_istore (lv' := [(9, .int (ht * nI (rad + 1 - mx (ad1 i row) (ad1 j col)) / nI (rad + 1))), (8, .int (nI (mx (ad1 i row) (ad1 j col)))), (0, .ref (G.2.1 21)), (1, .int (nI row)), (2, .int (nI col)), (3, .int (nI rad)), (4, .int ht), (5, .int y5), (6, .int (nI i)), (7, .int (nI j))]) hx hb dX7_raise_67 hl (by decide) rfl (fun ls hl => ?_)
                refine lv_aload_n hx hb dX7_raise_69 rfl (lv_at hl 2 rfl) ?_
                refine lv_iload hx hb dX7_raise_70 (lv_at hl 8 rfl) ?_
                refine lv_iload hx hb dX7_raise_72 (lv_at hl 9 rfl) ?_
                refine r_cR hS (r_runV (n := 2) (As := [.int (nI i), .int (nI j)]) (rest := []) CF hK hH (c_X7_heightAt l G σ1' i j (by omega) (by omega)) gX7_raise_X7_heightAt rfl rfl rfl rfl (by decide +kernel) ⟨⟨Nat.le_of_ble_eq_true rfl, Nat.le_of_ble_eq_true rfl⟩, Nat.le_of_ble_eq_true rfl, Nat.le_of_ble_eq_true rfl⟩ 21 rfl (Nat.le_of_ble_eq_true rfl) rfl rfl rfl hl.1 rfl (Nat.le_of_ble_eq_true rfl) dX7_raise_74) (fun H locs hH hS => ?_)
                refine lv_istore (lv' := [(10, .int (σ1' 22 (16 * i + j))), (9, .int (ht * nI (rad + 1 - mx (ad1 i row) (ad1 j col)) / nI (rad + 1))), (8, .int (nI (mx (ad1 i row) (ad1 j col)))), (0, .ref (G.2.1 21)), (1, .int (nI row)), (2, .int (nI col)), (3, .int (nI rad)), (4, .int ht), (5, .int y5), (6, .int (nI i)), (7, .int (nI j))]) hx hb dX7_raise_77 hl (by decide) rfl (fun ls hl => ?_)
                refine lv_sipush (v := 999) hx hb dX7_raise_79 (by decide) ?_
                refine lv_iload hx hb dX7_raise_82 (lv_at hl 0 rfl) ?_
                refine lv_iload hx hb dX7_raise_84 (lv_at hl 1 rfl) ?_
                refine lv_iadd hx hb dX7_raise_86 ?_
                refine va_mmin hx hb (by rw [CF.2.2.1]; exact hl.1.symm) hown K10 K11 K5 K12 (Nat.le_of_ble_eq_true rfl) (Nat.le_of_ble_eq_true rfl) (Nat.le_of_ble_eq_true rfl) (Nat.le_of_ble_eq_true rfl) dX7_raise_87 ?_
                refine r_top (show ((if ((σ1' 22 (16 * i + j)) + (ht * nI (rad + 1 - mx (ad1 i row) (ad1 j col)) / nI (rad + 1))) < (999 : Int32) then ((σ1' 22 (16 * i + j)) + (ht * nI (rad + 1 - mx (ad1 i row) (ad1 j col)) / nI (rad + 1))) else (999 : Int32)) : Int32) = rzV ht rad (mx (ad1 i row) (ad1 j col)) (σ1' 22 (16 * i + j)) from rfl) ?_
                refine lv_istore (lv' := [(11, .int (rzV ht rad (mx (ad1 i row) (ad1 j col)) (σ1' 22 (16 * i + j)))), (10, .int (σ1' 22 (16 * i + j))), (9, .int (ht * nI (rad + 1 - mx (ad1 i row) (ad1 j col)) / nI (rad + 1))), (8, .int (nI (mx (ad1 i row) (ad1 j col)))), (0, .ref (G.2.1 21)), (1, .int (nI row)), (2, .int (nI col)), (3, .int (nI rad)), (4, .int ht), (5, .int y5), (6, .int (nI i)), (7, .int (nI j))]) hx hb dX7_raise_90 hl (by decide) rfl (fun ls hl => ?_)
                refine lv_aload_n hx hb dX7_raise_92 rfl (lv_at hl 4 rfl) ?_
                refine lv_iload hx hb dX7_raise_93 (lv_at hl 10 rfl) ?_
                refine lv_iload hx hb dX7_raise_95 (lv_at hl 11 rfl) ?_
                refine lv_iload hx hb dX7_raise_97 (lv_at hl 0 rfl) ?_
                refine r_cV hS (r_runV (n := 3) (As := [.int (nI i), .int (nI j), .int (rzV ht rad (mx (ad1 i row) (ad1 j col)) (σ1' 22 (16 * i + j)))]) (rest := []) CF hK hH (c_X7_put l G σ1' i j (rzV ht rad (mx (ad1 i row) (ad1 j col)) (σ1' 22 (16 * i + j))) (by omega) (by omega)) gX7_raise_X7_put rfl rfl rfl rfl (by decide +kernel) ⟨⟨Nat.le_of_ble_eq_true rfl, Nat.le_of_ble_eq_true rfl⟩, Nat.le_of_ble_eq_true rfl, Nat.le_of_ble_eq_true rfl⟩ 21 rfl (Nat.le_of_ble_eq_true rfl) rfl rfl rfl hl.1 rfl (Nat.le_of_ble_eq_true rfl) dX7_raise_99) (fun H locs hH hS => ?_)
                refine lv_iload hx hb dX7_raise_102 (lv_at hl 9 rfl) ?_
                refine lv_iload hx hb dX7_raise_104 (lv_at hl 0 rfl) ?_
                refine lv_iload hx hb dX7_raise_106 (lv_at hl 1 rfl) ?_
                refine lv_icmp_eq (tgt := 115) hx hb dX7_raise_108 (by decide) (fun c108 => ?_) (fun c108 => ?_)
                · refine lv_iconst (v := 0) hx hb dX7_raise_115 (by decide) ?_
                  refine lv_iadd hx hb dX7_raise_116 ?_
                  refine lv_istore (lv' := [(5, .int (y5 + (0 : Int32))), (11, .int (rzV ht rad (mx (ad1 i row) (ad1 j col)) (σ1' 22 (16 * i + j)))), (10, .int (σ1' 22 (16 * i + j))), (9, .int (ht * nI (rad + 1 - mx (ad1 i row) (ad1 j col)) / nI (rad + 1))), (8, .int (nI (mx (ad1 i row) (ad1 j col)))), (0, .ref (G.2.1 21)), (1, .int (nI row)), (2, .int (nI col)), (3, .int (nI rad)), (4, .int ht), (6, .int (nI i)), (7, .int (nI j))]) hx hb dX7_raise_117 hl (by decide) rfl (fun ls hl => ?_)
                  refine lv_iinc (v := nI (j + 1)) (lv' := [(7, .int (nI (j + 1))), (5, .int (y5 + (0 : Int32))), (11, .int (rzV ht rad (mx (ad1 i row) (ad1 j col)) (σ1' 22 (16 * i + j)))), (10, .int (σ1' 22 (16 * i + j))), (9, .int (ht * nI (rad + 1 - mx (ad1 i row) (ad1 j col)) / nI (rad + 1))), (8, .int (nI (mx (ad1 i row) (ad1 j col)))), (0, .ref (G.2.1 21)), (1, .int (nI row)), (2, .int (nI col)), (3, .int (nI rad)), (4, .int ht), (6, .int (nI i))]) hx hb dX7_raise_119 hl (k := 11) rfl (nI_1 _) (by decide) rfl (fun ls hl => ?_)
                  refine lv_goto (tgt := 18) hx hb dX7_raise_122 (by decide) ?_
                  exact ih18 (j + 1) (y5 + (0 : Int32)) (u2 σ1' 22 (16 * i + j) (rzV ht rad (mx (ad1 i row) (ad1 j col)) (σ1' 22 (16 * i + j)))) _ _ ls (by omega) (by omega) (by rw [show i * C + (j + 1) = i * C + j + 1 from rfl, rzS_t c24 c49, hz']; show _ = nI (_ + _); rw [if_pos (by have q := c108; rw [hσ', up_s] at q; exact q)]; simp) (by rw [show i * C + (j + 1) = i * C + j + 1 from rfl, rzS_t c24 c49, hσ', u2_up, up_s]) hH hS (lv_sub hl [6, 7, 8, 9, 10, 1, 11, 0] rfl)
                · refine lv_iconst (v := 1) hx hb dX7_raise_111 (by decide) ?_
                  refine lv_goto (tgt := 116) hx hb dX7_raise_112 (by decide) ?_
                  refine lv_iadd hx hb dX7_raise_116 ?_
                  refine lv_istore (lv' := [(5, .int (y5 + (1 : Int32))), (11, .int (rzV ht rad (mx (ad1 i row) (ad1 j col)) (σ1' 22 (16 * i + j)))), (10, .int (σ1' 22 (16 * i + j))), (9, .int (ht * nI (rad + 1 - mx (ad1 i row) (ad1 j col)) / nI (rad + 1))), (8, .int (nI (mx (ad1 i row) (ad1 j col)))), (0, .ref (G.2.1 21)), (1, .int (nI row)), (2, .int (nI col)), (3, .int (nI rad)), (4, .int ht), (6, .int (nI i)), (7, .int (nI j))]) hx hb dX7_raise_117 hl (by decide) rfl (fun ls hl => ?_)
                  refine lv_iinc (v := nI (j + 1)) (lv' := [(7, .int (nI (j + 1))), (5, .int (y5 + (1 : Int32))), (11, .int (rzV ht rad (mx (ad1 i row) (ad1 j col)) (σ1' 22 (16 * i + j)))), (10, .int (σ1' 22 (16 * i + j))), (9, .int (ht * nI (rad + 1 - mx (ad1 i row) (ad1 j col)) / nI (rad + 1))), (8, .int (nI (mx (ad1 i row) (ad1 j col)))), (0, .ref (G.2.1 21)), (1, .int (nI row)), (2, .int (nI col)), (3, .int (nI rad)), (4, .int ht), (6, .int (nI i))]) hx hb dX7_raise_119 hl (k := 11) rfl (nI_1 _) (by decide) rfl (fun ls hl => ?_)
                  refine lv_goto (tgt := 18) hx hb dX7_raise_122 (by decide) ?_
                  exact ih18 (j + 1) (y5 + (1 : Int32)) (u2 σ1' 22 (16 * i + j) (rzV ht rad (mx (ad1 i row) (ad1 j col)) (σ1' 22 (16 * i + j)))) _ _ ls (by omega) (by omega) (by rw [show i * C + (j + 1) = i * C + j + 1 from rfl, rzS_t c24 c49, hz']; show _ = nI (_ + _); rw [if_neg (fun q => c108 (by rw [hσ', up_s]; exact q))]; exact nI_1 _) (by rw [show i * C + (j + 1) = i * C + j + 1 from rfl, rzS_t c24 c49, hσ', u2_up, up_s]) hH hS (lv_sub hl [6, 7, 8, 9, 10, 1, 11, 0] rfl)
        exact lp18 (C + 1) 0 x5 σ1 _ _ ls (by omega) (by omega) (by exact hz) (by exact hσ) hH hS (lv_sub hl [1, 2, 3, 4, 5, 6, 7, 0] rfl)
  exact lp6 (R + 1) 0 (0 : Int32) σ _ _ ls (by omega) (by omega) (by rw [Nat.zero_mul]; rfl) (by rw [Nat.zero_mul]; exact (up_id σ 22).symm) hH hS (lv_sub hl [2, 3, 4, 5, 6, 1, 0] rfl)

def aHill (R C : Nat) (g : Nat → Int32) (x y rd h : Int32) : Int32 := if !(inB x R && inB y C) then -1 else if !(isW rd 0 5 && isW h 1 999) then -4 else nI (rzS C (NN x) (NN y) (NN rd) h g (R * C)).2

set_option maxRecDepth 100000 in
set_option maxHeartbeats 4000000 in
theorem c_X8_raiseHill (l : Launch) (G : Gm) (σ : Sg) (R C n : Nat) (sq : Nat → S4) (hA : CA σ R C n sq) (x y z h : Int32) : Met l yX8_raiseHill wsX8_raiseHill (rmO 2 55) (PP G [.ref (G.2.1 20), .int x, .int y, .int z, .int h] σ) (QI G (RV (aHill R C (σ 22) x y z h) (if (inB x R && inB y C) && (isW z 0 5 && isW h 1 999) then va_up σ 22 (rzS C (NN x) (NN y) (NN z) h (σ 22) (R * C)).1 else σ))) 0 0 (fr G) := by
  refine r_start (cc := cX8_raiseHill) (maxL := 5) (ret := (some .int)) (by decide) rfl (Nat.le_of_ble_eq_true rfl) ?_
  intro pz ez sz mz below meth cz ls CF hr hlk hK hH hS hl
  have CF : CallFix pz mz cz cX8_raiseHill 5 sz (List.toArray [.ref (G.2.1 20), .int x, .int y, .int z, .int h]) wsX8_raiseHill RX8 := CF
  have hx := CF.1
  have hb := CF.2.1
  have hown := CF.2.2.2.1
  have hts := CF.2.2.2.2
  have hl : lv_has ls 5 [(0, .ref (G.2.1 20)), (1, .int x), (2, .int y), (3, .int z), (4, .int h)] := hl
  have K1 := hts _ (List.mem_of_getElem? (i := 1) rfl)
  have JX8 : ∀ w ∈ wsX80, w ∈ wsX8_raiseHill := in_r _ [38, 39, 40, 41, 42, 43, 44] (by decide +kernel)
  obtain ⟨hR, hC, hR3, hR10, hC4, hC16, hh, hL⟩ := hA
  have hn : σ (16 + 0) 0 = nI n := hL.1
  have hn8 := hL.2.1
  refine lv_aload_n hx hb dX8_raiseHill_0 rfl (lv_at hl 0 rfl) ?_
  refine r_get CF hK hH 20 (Nat.le_of_ble_eq_true rfl) rfl rfl JX8 0 (by decide) K1 rfl dX8_raiseHill_1 ?_
  refine lv_iload_n hx hb dX8_raiseHill_4 rfl (lv_at hl 1 rfl) ?_
  refine lv_iload_n hx hb dX8_raiseHill_5 rfl (lv_at hl 2 rfl) ?_
  refine r_cR hS (r_runV (n := 2) (As := [.int x, .int y]) (rest := []) CF hK hH (c_X7_contains l G σ x y) gX8_raiseHill_X7_contains rfl rfl rfl rfl (by decide +kernel) ⟨⟨Nat.le_of_ble_eq_true rfl, Nat.le_of_ble_eq_true rfl⟩, Nat.le_of_ble_eq_true rfl, Nat.le_of_ble_eq_true rfl⟩ 21 rfl (Nat.le_of_ble_eq_true rfl) rfl rfl rfl hl.1 rfl (Nat.le_of_ble_eq_true rfl) dX8_raiseHill_6) (fun H locs hH hS => ?_)
  refine r_top (show (b2i (isC σ x y) : Int32) = b2i (inB x R && inB y C) from (by rw [isC_eq hR hC])) ?_
  refine r_ifneB (tgt := 14) hx hb dX8_raiseHill_9 (by decide) (fun c9 => ?_) (fun c9 => ?_)
  · obtain ⟨r, c, hr1, hc1, ex, ey, exN, eyN⟩ := inC_of c9 hR10 hC16
    refine lv_iload_n hx hb dX8_raiseHill_14 rfl (lv_at hl 3 rfl) ?_
    refine lv_iconst (v := 0) hx hb dX8_raiseHill_15 (by decide) ?_
    refine lv_iconst (v := 5) hx hb dX8_raiseHill_16 (by decide) ?_
    refine r_cR hS (r_runS (n := 3) (As := [.int z, .int (0 : Int32), .int (5 : Int32)]) (rest := []) CF hK hH (c_X8_isWithin l G σ z (0 : Int32) (5 : Int32)) gX8_raiseHill_X8_isWithin rfl rfl rfl (by decide +kernel) ⟨⟨Nat.le_of_ble_eq_true rfl, Nat.le_of_ble_eq_true rfl⟩, Nat.le_of_ble_eq_true rfl, Nat.le_of_ble_eq_true rfl⟩ rfl hl.1 rfl (Nat.le_of_ble_eq_true rfl) dX8_raiseHill_17) (fun H locs hH hS => ?_)
    refine r_ifeqB (tgt := 35) hx hb dX8_raiseHill_20 (by decide) (fun c20 => ?_) (fun c20 => ?_)
    · refine lv_bipush (v := (-4)) hx hb dX8_raiseHill_35 (by decide) ?_
      exact r_iret CF hr hlk hH hS dX8_raiseHill_37 ⟨by simp [aHill, c9, c20], by simp [c9, c20]⟩
    · refine lv_iload hx hb dX8_raiseHill_23 (lv_at hl 4 rfl) ?_
      refine lv_iconst (v := 1) hx hb dX8_raiseHill_25 (by decide) ?_
      refine lv_sipush (v := 999) hx hb dX8_raiseHill_26 (by decide) ?_
      refine r_cR hS (r_runS (n := 3) (As := [.int h, .int (1 : Int32), .int (999 : Int32)]) (rest := []) CF hK hH (c_X8_isWithin l G σ h (1 : Int32) (999 : Int32)) gX8_raiseHill_X8_isWithin rfl rfl rfl (by decide +kernel) ⟨⟨Nat.le_of_ble_eq_true rfl, Nat.le_of_ble_eq_true rfl⟩, Nat.le_of_ble_eq_true rfl, Nat.le_of_ble_eq_true rfl⟩ rfl hl.1 rfl (Nat.le_of_ble_eq_true rfl) dX8_raiseHill_29) (fun H locs hH hS => ?_)
      refine r_ifneB (tgt := 38) hx hb dX8_raiseHill_32 (by decide) (fun c32 => ?_) (fun c32 => ?_)
      · obtain ⟨rd, hrd0, hrd5, erd, erdN⟩ := isW_of (a := 0) (b := 5) c20 (by omega) (by omega)
        refine lv_aload_n hx hb dX8_raiseHill_38 rfl (lv_at hl 0 rfl) ?_
        refine r_get CF hK hH 20 (Nat.le_of_ble_eq_true rfl) rfl rfl JX8 0 (by decide) K1 rfl dX8_raiseHill_39 ?_
        refine lv_iload_n hx hb dX8_raiseHill_42 rfl (lv_at hl 1 rfl) ?_
        refine r_top (show (x : Int32) = nI r from ex) ?_
        refine lv_iload_n hx hb dX8_raiseHill_43 rfl (lv_at hl 2 rfl) ?_
        refine r_top (show (y : Int32) = nI c from ey) ?_
        refine lv_iload_n hx hb dX8_raiseHill_44 rfl (lv_at hl 3 rfl) ?_
        refine r_top (show (z : Int32) = nI rd from erd) ?_
        refine lv_iload hx hb dX8_raiseHill_45 (lv_at hl 4 rfl) ?_
        refine r_cR hS (r_runV (n := 4) (As := [.int (nI r), .int (nI c), .int (nI rd), .int h]) (rest := []) CF hK hH (c_X7_raise l G σ R C hR hC hR10 hC16 r c rd h (by omega) (by omega) hrd5) gX8_raiseHill_X7_raise rfl rfl rfl rfl (by decide +kernel) ⟨⟨Nat.le_of_ble_eq_true rfl, Nat.le_of_ble_eq_true rfl⟩, Nat.le_of_ble_eq_true rfl, Nat.le_of_ble_eq_true rfl⟩ 21 rfl (Nat.le_of_ble_eq_true rfl) rfl rfl rfl hl.1 rfl (Nat.le_of_ble_eq_true rfl) dX8_raiseHill_47) (fun H locs hH hS => ?_)
        exact r_iret CF hr hlk hH hS dX8_raiseHill_50 ⟨by simp [aHill, c9, c20, c32, exN, eyN, erdN], by simp [c9, c20, c32, exN, eyN, erdN]⟩
      · refine lv_bipush (v := (-4)) hx hb dX8_raiseHill_35 (by decide) ?_
        exact r_iret CF hr hlk hH hS dX8_raiseHill_37 ⟨by simp [aHill, c9, c20, c32], by simp [c9, c20, c32]⟩
  · refine lv_iconst (v := (-1)) hx hb dX8_raiseHill_12 (by decide) ?_
    exact r_iret CF hr hlk hH hS dX8_raiseHill_13 ⟨by simp [aHill, c9], by simp [c9]⟩
