theorem dm1 {i j C : Nat} (h : j < C) : (i * C + j) / C = i := by
  rw [Nat.add_comm, Nat.add_mul_div_right _ _ (by omega), Nat.div_eq_of_lt h]; omega
theorem dm2 {i j C : Nat} (h : j < C) : (i * C + j) % C = j := by
  rw [Nat.add_comm, Nat.add_mul_mod_self_right, Nat.mod_eq_of_lt h]
theorem lt_mul {i j R C : Nat} (hi : i < R) (hj : j < C) : i * C + j < R * C := by
  have h1 : (i + 1) * C ≤ R * C := Nat.mul_le_mul_right C hi
  rw [Nat.succ_mul] at h1
  omega
def gapP (g : Nat → Int32) (cm : Cm) (sq : Nat → S4) (n C L : Nat) : Nat → Bool := fun z => decide (covF g cm sq (z / C) (z % C) n < L)
theorem gapP_at (g : Nat → Int32) (cm : Cm) (sq : Nat → S4) (n L : Nat) {i j C : Nat} (h : j < C) : gapP g cm sq n C L (i * C + j) = decide (covF g cm sq i j n < L) := by
  unfold gapP; rw [dm1 h, dm2 h]

set_option maxRecDepth 100000 in
set_option maxHeartbeats 4000000 in
theorem c_X6_leavesGap (l : Launch) (G : Gm) (σ : Sg) (b : Nat) (hb2 : b < 2) (n : Nat) (sq : Nat → S4) (hL : LSt σ b n sq) (R C : Nat) (hR : σ 21 0 = nI R) (hC : σ 21 1 = nI C) (hR10 : R ≤ 10) (hC16 : C ≤ 16) (L : Nat) (hL31 : L < 2 ^ 31) (hh : hB (σ 22) (σ 23 0)) : Met l yX6_leavesGap wsX6_leavesGap (rmO 4 114) (PP G [.ref (G.2.1 (16 + b)), .ref (G.2.1 21), .ref (G.2.1 23), .int (nI L)] σ) (QI G (RV (b2i (decide (0 < cnt (gapP (σ 22) (cmC σ) sq n C L) (R * C)))) σ)) 0 0 (fr G) := by
  refine r_start (cc := cX6_leavesGap) (maxL := 6) (ret := (some .boolean)) (by decide) rfl (Nat.le_of_ble_eq_true rfl) ?_
  intro pz ez sz mz below meth cz ls CF hr hlk hK hH hS hl
  have CF : CallFix pz mz cz cX6_leavesGap 6 sz (List.toArray [.ref (G.2.1 (16 + b)), .ref (G.2.1 21), .ref (G.2.1 23), .int (nI L)]) wsX6_leavesGap RX6 := CF
  have hx := CF.1
  have hb := CF.2.1
  have hown := CF.2.2.2.1
  have hts := CF.2.2.2.2
  have hl : lv_has ls 6 [(0, .ref (G.2.1 (16 + b))), (1, .ref (G.2.1 21)), (2, .ref (G.2.1 23)), (3, .int (nI L))] := hl
  have K1 := hts _ (List.mem_of_getElem? (i := 1) rfl)
  have K2 := hts _ (List.mem_of_getElem? (i := 2) rfl)
  have JX7 : ∀ w ∈ wsX70, w ∈ wsX6_leavesGap := in_r _ [64, 65, 66] (by decide +kernel)
  refine lv_iconst (v := 0) hx hb dX6_leavesGap_0 (by decide) ?_
  refine lv_istore (lv' := [(4, .int (0 : Int32)), (0, .ref (G.2.1 (16 + b))), (1, .ref (G.2.1 21)), (2, .ref (G.2.1 23)), (3, .int (nI L))]) hx hb dX6_leavesGap_1 hl (by decide) rfl (fun ls hl => ?_)
  have lp3 : ∀ (fu : Nat) (i : Nat) (H : Heap) (locs : List Loc) (ls : Array Slot), (R + 1 ≤ i + fu) → (i ≤ R) → (cnt (gapP (σ 22) (cmC σ) sq n C L) (i * C) = 0) → Hp G σ H → va_S (fr G) sz.heap H locs → lv_has ls 6 [(0, .ref (G.2.1 (16 + b))), (1, .ref (G.2.1 21)), (2, .ref (G.2.1 23)), (3, .int (nI L)), (4, .int (nI i))] → W pz l ez (rmO 4 114) sz mz (List.toArray [.ref (G.2.1 (16 + b)), .ref (G.2.1 21), .ref (G.2.1 23), .int (nI L)]) below meth cz H locs 0 0 (MQ below (QI G (RV (b2i (decide (0 < cnt (gapP (σ 22) (cmC σ) sq n C L) (R * C)))) σ)) (List.toArray [.ref (G.2.1 (16 + b)), .ref (G.2.1 21), .ref (G.2.1 23), .int (nI L)]) sz 0 0 (fr G)) (F0 mz 3 ls []) := by
    intro fu
    induction fu with
    | zero => intros; omega
    | succ fu ih3 =>
      intro i H locs ls hf hi hz hH hS hl
      refine lv_iload hx hb dX6_leavesGap_3 (lv_at hl 4 rfl) ?_
      refine lv_aload_n hx hb dX6_leavesGap_5 rfl (lv_at hl 1 rfl) ?_
      refine r_get CF hK hH 21 (Nat.le_of_ble_eq_true rfl) rfl rfl JX7 0 (by decide) K1 rfl dX6_leavesGap_6 ?_
      refine r_top (show (σ 21 0 : Int32) = nI R from hR) ?_
      refine lv_icmp_ge (tgt := 53) hx hb dX6_leavesGap_9 (by decide) (fun c9 => ?_) (fun c9 => ?_)
      · have c9 : R ≤ i := (nI_leI (a := R) (b := i) (by omega) (by omega)).mp c9
        refine lv_iconst (v := 0) hx hb dX6_leavesGap_53 (by decide) ?_
        exact r_zret CF hr hlk hH hS rfl dX6_leavesGap_54 ⟨by have e : i = R := (by omega); subst e; simp [b2i, hz], rfl⟩
      · have c9 : i < R := Nat.lt_of_not_le (fun zq => c9 ((nI_leI (a := R) (b := i) (by omega) (by omega)).mpr zq))
        refine lv_iconst (v := 0) hx hb dX6_leavesGap_12 (by decide) ?_
        refine lv_istore (lv' := [(5, .int (0 : Int32)), (0, .ref (G.2.1 (16 + b))), (1, .ref (G.2.1 21)), (2, .ref (G.2.1 23)), (3, .int (nI L)), (4, .int (nI i))]) hx hb dX6_leavesGap_13 hl (by decide) rfl (fun ls hl => ?_)
        have lp15 : ∀ (fv : Nat) (j : Nat) (H : Heap) (locs : List Loc) (ls : Array Slot), (C + 1 ≤ j + fv) → (j ≤ C) → (cnt (gapP (σ 22) (cmC σ) sq n C L) ((i * C + j)) = 0) → Hp G σ H → va_S (fr G) sz.heap H locs → lv_has ls 6 [(0, .ref (G.2.1 (16 + b))), (1, .ref (G.2.1 21)), (2, .ref (G.2.1 23)), (3, .int (nI L)), (4, .int (nI i)), (5, .int (nI j))] → W pz l ez (rmO 4 114) sz mz (List.toArray [.ref (G.2.1 (16 + b)), .ref (G.2.1 21), .ref (G.2.1 23), .int (nI L)]) below meth cz H locs 0 0 (MQ below (QI G (RV (b2i (decide (0 < cnt (gapP (σ 22) (cmC σ) sq n C L) (R * C)))) σ)) (List.toArray [.ref (G.2.1 (16 + b)), .ref (G.2.1 21), .ref (G.2.1 23), .int (nI L)]) sz 0 0 (fr G)) (F0 mz 15 ls []) := by
          intro fv
          induction fv with
          | zero => intros; omega
          | succ fv ih15 =>
            intro j H locs ls hg hj hz' hH hS hl
            refine lv_iload hx hb dX6_leavesGap_15 (lv_at hl 5 rfl) ?_
            refine lv_aload_n hx hb dX6_leavesGap_17 rfl (lv_at hl 1 rfl) ?_
            refine r_get CF hK hH 21 (Nat.le_of_ble_eq_true rfl) rfl rfl JX7 1 (by decide) K2 rfl dX6_leavesGap_18 ?_
            refine r_top (show (σ 21 1 : Int32) = nI C from hC) ?_
            refine lv_icmp_ge (tgt := 47) hx hb dX6_leavesGap_21 (by decide) (fun c21 => ?_) (fun c21 => ?_)
            · have c21 : C ≤ j := (nI_leI (a := C) (b := j) (by omega) (by omega)).mp c21
              refine lv_iinc (v := nI (i + 1)) (lv' := [(4, .int (nI (i + 1))), (0, .ref (G.2.1 (16 + b))), (1, .ref (G.2.1 21)), (2, .ref (G.2.1 23)), (3, .int (nI L)), (5, .int (nI j))]) hx hb dX6_leavesGap_47 hl (k := 4) rfl (nI_1 _) (by decide) rfl (fun ls hl => ?_)
              refine lv_goto (tgt := 3) hx hb dX6_leavesGap_50 (by decide) ?_
              exact ih3 (i + 1) _ _ ls (by omega) (by omega) (by have e : (i + 1) * C = i * C + j := (by have e2 : j = C := (by omega); rw [e2, Nat.succ_mul]); rw [e]; exact hz') hH hS (lv_sub hl [1, 2, 3, 4, 0] rfl)
            · have c21 : j < C := Nat.lt_of_not_le (fun zq => c21 ((nI_leI (a := C) (b := j) (by omega) (by omega)).mpr zq))
              refine lv_aload_n hx hb dX6_leavesGap_24 rfl (lv_at hl 0 rfl) ?_
              refine lv_aload_n hx hb dX6_leavesGap_25 rfl (lv_at hl 1 rfl) ?_
              refine lv_aload_n hx hb dX6_leavesGap_26 rfl (lv_at hl 2 rfl) ?_
              refine lv_iload hx hb dX6_leavesGap_27 (lv_at hl 4 rfl) ?_
              refine lv_iload hx hb dX6_leavesGap_29 (lv_at hl 5 rfl) ?_
              refine lv_iload_n hx hb dX6_leavesGap_31 rfl (lv_at hl 3 rfl) ?_
              refine r_cR hS (r_runV (n := 5) (As := [.ref (G.2.1 21), .ref (G.2.1 23), .int (nI i), .int (nI j), .int (nI L)]) (rest := []) CF hK hH (c_X6_views l G σ b hb2 n sq hL i j L (by omega) (by omega) (by omega) hh) gX6_leavesGap_X6_views rfl rfl rfl rfl (by decide +kernel) ⟨⟨Nat.le_of_ble_eq_true rfl, Nat.le_of_ble_eq_true rfl⟩, Nat.le_of_ble_eq_true rfl, Nat.le_of_ble_eq_true rfl⟩ (16 + b) rfl (by omega) (we_l G hb2 _) rfl rfl hl.1 rfl (Nat.le_of_ble_eq_true rfl) dX6_leavesGap_32) (fun H locs hH hS => ?_)
              refine lv_iload_n hx hb dX6_leavesGap_35 rfl (lv_at hl 3 rfl) ?_
              refine lv_icmp_ge (tgt := 41) hx hb dX6_leavesGap_36 (by decide) (fun c36 => ?_) (fun c36 => ?_)
              · have c36 : L ≤ min (covF (σ 22) (cmC σ) sq i j n) L := (nI_leI (a := L) (by omega) (by omega)).mp c36
                have gp : gapP (σ 22) (cmC σ) sq n C L (i * C + j) = false := by rw [gapP_at _ _ _ _ _ (by omega)]; simp; omega
                refine lv_iinc (v := nI (j + 1)) (lv' := [(5, .int (nI (j + 1))), (0, .ref (G.2.1 (16 + b))), (1, .ref (G.2.1 21)), (2, .ref (G.2.1 23)), (3, .int (nI L)), (4, .int (nI i))]) hx hb dX6_leavesGap_41 hl (k := 5) rfl (nI_1 _) (by decide) rfl (fun ls hl => ?_)
                refine lv_goto (tgt := 15) hx hb dX6_leavesGap_44 (by decide) ?_
                exact ih15 (j + 1) _ _ ls (by omega) (by omega) (by rw [show i * C + (j + 1) = i * C + j + 1 from rfl, cnt_f (p := gapP (σ 22) (cmC σ) sq n C L) gp]; exact hz') hH hS (lv_sub hl [1, 2, 3, 4, 5, 0] rfl)
              · have c36 : min (covF (σ 22) (cmC σ) sq i j n) L < L := Nat.lt_of_not_le (fun zq => c36 (nI_le zq (by omega)))
                have gp : gapP (σ 22) (cmC σ) sq n C L (i * C + j) = true := by rw [gapP_at _ _ _ _ _ (by omega)]; simp; omega
                refine lv_iconst (v := 1) hx hb dX6_leavesGap_39 (by decide) ?_
                exact r_zret CF hr hlk hH hS rfl dX6_leavesGap_40 ⟨by have := cnt_pos (p := gapP (σ 22) (cmC σ) sq n C L) gp (lt_mul c9 c21); simp [b2i, this], rfl⟩
        exact lp15 (C + 1) 0 _ _ ls (by omega) (by omega) (by exact hz) hH hS (lv_sub hl [1, 2, 3, 4, 5, 0] rfl)
  exact lp3 (R + 1) 0 _ _ ls (by omega) (by omega) (by rw [Nat.zero_mul]; rfl) hH hS (lv_sub hl [1, 2, 3, 4, 0] rfl)

def ndF (R rs : Nat) : Nat := (R - 1 - rs / 2) / rs + 1
def sqP (rs ps C : Nat) : Nat → S4 := fun i => (rs / 2 + i * rs, 0, C - 1, ps)
def layS (σ : Sg) (b rs ps C : Nat) : Nat → Sg
  | 0 => u2 σ (16 + b) 0 0
  | m + 1 => addF (layS σ b rs ps C m) b m (nI (rs / 2 + m * rs)) 0 (nI (C - 1)) (nI ps)
theorem addF_n {σ : Sg} {b n k : Nat} {a c d e : Int32} (h1 : k ≠ 8 * b + n) (h2 : k ≠ 16 + b) : addF σ b n a c d e k = σ k := by
  unfold addF
  rw [u2_n _ _ _ h2, u2_n _ _ _ h1, u2_n _ _ _ h1, u2_n _ _ _ h1, u2_n _ _ _ h1]
theorem addF_c (σ : Sg) (b n : Nat) (a c d e : Int32) : addF σ b n a c d e (16 + b) 0 = nI (n + 1) := by unfold addF; rw [u2_ss]
theorem addF_s {σ : Sg} {b n : Nat} (hb2 : b < 2) (hn : n < 8) (a c d e : Int32) : addF σ b n a c d e (8 * b + n) 0 = a ∧ addF σ b n a c d e (8 * b + n) 1 = c ∧ addF σ b n a c d e (8 * b + n) 2 = d ∧ addF σ b n a c d e (8 * b + n) 3 = e := by
  have h : 8 * b + n ≠ 16 + b := by omega
  unfold addF
  rw [u2_n _ _ _ h]
  refine ⟨?_, ?_, ?_, ?_⟩ <;> simp [u2, va_up]
theorem layS_n {σ : Sg} {b rs ps C : Nat} (m : Nat) {k : Nat} (hm : m ≤ 8) (h1 : ¬ (8 * b ≤ k ∧ k < 8 * b + 8)) (h2 : k ≠ 16 + b) : layS σ b rs ps C m k = σ k := by
  induction m with
  | zero => exact u2_n _ _ _ h2
  | succ m ih => rw [layS, addF_n (by omega) h2, ih (by omega)]
theorem layS_c (σ : Sg) (b rs ps C m : Nat) : layS σ b rs ps C m (16 + b) 0 = nI m := by
  cases m with
  | zero => exact u2_ss _ _ _ _
  | succ m => exact addF_c _ _ _ _ _ _ _
theorem layS_s {σ : Sg} {b rs ps C : Nat} (hb2 : b < 2) (m : Nat) (hm : m ≤ 8) {i : Nat} (hi : i < m) : layS σ b rs ps C m (8 * b + i) 0 = nI (rs / 2 + i * rs) ∧ layS σ b rs ps C m (8 * b + i) 1 = 0 ∧ layS σ b rs ps C m (8 * b + i) 2 = nI (C - 1) ∧ layS σ b rs ps C m (8 * b + i) 3 = nI ps := by
  induction m with
  | zero => omega
  | succ m ih =>
    by_cases h : i = m
    · subst h
      exact addF_s hb2 (by omega) _ _ _ _
    · rw [layS, addF_n (by omega) (by omega)]
      exact ih (by omega) (by omega)
theorem row_lt {R rs i : Nat} (h1 : 1 ≤ rs) (h2 : rs ≤ R) (hi : i < ndF R rs) : rs / 2 + i * rs < R := by
  unfold ndF at hi
  have h3 : i ≤ (R - 1 - rs / 2) / rs := by omega
  have h4 := (Nat.le_div_iff_mul_le (by omega)).mp h3
  omega
theorem layS_L {σ : Sg} {b rs ps C R m : Nat} (hb2 : b < 2) (hm : m ≤ 8) (h1 : 1 ≤ rs) (h2 : rs ≤ R) (hR : R ≤ 10) (hC : 1 ≤ C) (hC2 : C ≤ 16) (h3 : 1 ≤ ps) (h4 : ps ≤ 16) (hmn : m ≤ ndF R rs) : LSt (layS σ b rs ps C m) b m (sqP rs ps C) := by
  refine ⟨layS_c _ _ _ _ _ _, hm, fun i hi => ?_⟩
  obtain ⟨e0, e1, e2, e3⟩ := layS_s (σ := σ) (rs := rs) (ps := ps) (C := C) hb2 m hm hi
  have hr := row_lt h1 h2 (show i < ndF R rs by omega)
  exact ⟨e0, e1, e2, e3, show rs / 2 + i * rs < 10 by omega, Nat.zero_le _, show C - 1 < 16 by omega, h3, h4⟩
theorem nd_nI {R rs : Nat} (h1 : 1 ≤ rs) (h2 : rs ≤ R) (hR : R ≤ 10) : quo (nI R - 1 - nI rs / 2) (nI rs) + 1 = nI (ndF R rs) := by
  rw [show nI rs / 2 = nI (rs / 2) from pk_div (d := 2) (by omega) (by omega) (by omega), show nI R - 1 = nI (R - 1) from pk_sub (b := 1) (by omega), pk_sub (by omega), quo_nI (by omega) (by omega) (by omega)]
  exact nI_1 _
theorem ndF_le {R rs : Nat} (hR : R ≤ 10) : ndF R rs ≤ 10 := by
  unfold ndF
  have := Nat.div_le_self (R - 1 - rs / 2) rs
  omega

set_option maxRecDepth 100000 in
set_option maxHeartbeats 4000000 in
theorem c_X6_layOut (l : Launch) (G : Gm) (σ : Sg) (b : Nat) (hb2 : b < 2) (rs ps : Nat) (R C : Nat) (hR : σ 21 0 = nI R) (hC : σ 21 1 = nI C) (hR10 : R ≤ 10) (hC16 : C ≤ 16) (h1 : 1 ≤ rs) (h2 : rs ≤ R) (hC1 : 1 ≤ C) : Met l yX6_layOut wsX6_layOut (rmO 2 49) (PP G [.ref (G.2.1 (16 + b)), .ref (G.2.1 21), .int (nI rs), .int (nI ps)] σ) (QI G (fun r σ' => if 8 < ndF R rs then r = b2i false ∧ σ' = σ else r = b2i true ∧ σ' = layS σ b rs ps C (ndF R rs))) 0 0 (fr G) := by
  refine r_start (cc := cX6_layOut) (maxL := 7) (ret := (some .boolean)) (by decide) rfl (Nat.le_of_ble_eq_true rfl) ?_
  intro pz ez sz mz below meth cz ls CF hr hlk hK hH hS hl
  have CF : CallFix pz mz cz cX6_layOut 7 sz (List.toArray [.ref (G.2.1 (16 + b)), .ref (G.2.1 21), .int (nI rs), .int (nI ps)]) wsX6_layOut RX6 := CF
  have hx := CF.1
  have hb := CF.2.1
  have hown := CF.2.2.2.1
  have hts := CF.2.2.2.2
  have hl : lv_has ls 7 [(0, .ref (G.2.1 (16 + b))), (1, .ref (G.2.1 21)), (2, .int (nI rs)), (3, .int (nI ps))] := hl
  have K1 := hts _ (List.mem_of_getElem? (i := 1) rfl)
  have K2 := hts _ (List.mem_of_getElem? (i := 2) rfl)
  have K3 := hts _ (List.mem_of_getElem? (i := 3) rfl)
  have K4 := hts _ (List.mem_of_getElem? (i := 4) rfl)
  have K5 := hts _ (List.mem_of_getElem? (i := 5) rfl)
  have JX6 : ∀ w ∈ wsX60, w ∈ wsX6_layOut := in_r _ [33, 34] (by decide +kernel)
  have JX7 : ∀ w ∈ wsX70, w ∈ wsX6_layOut := in_r _ [30, 31, 32] (by decide +kernel)
  have hnd := ndF_le (rs := rs) hR10
  have hnq := nd_nI h1 h2 hR10
  obtain ⟨N, hN⟩ : ∃ N, ndF R rs = N := ⟨_, rfl⟩
  rw [hN] at hnd hnq
  refine lv_iload_n hx hb dX6_layOut_0 rfl (lv_at hl 2 rfl) ?_
  refine lv_iconst (v := 2) hx hb dX6_layOut_1 (by decide) ?_
  refine lv_idiv hx hb dX6_layOut_2 (by decide) ?_
  refine lv_istore (lv' := [(4, .int ((nI rs) / (2 : Int32))), (0, .ref (G.2.1 (16 + b))), (1, .ref (G.2.1 21)), (2, .int (nI rs)), (3, .int (nI ps))]) hx hb dX6_layOut_3 hl (by decide) rfl (fun ls hl => ?_)
  refine lv_aload_n hx hb dX6_layOut_5 rfl (lv_at hl 2 rfl) ?_
  refine r_get CF hK hH 21 (Nat.le_of_ble_eq_true rfl) rfl rfl JX7 0 (by decide) K1 rfl dX6_layOut_6 ?_
  refine r_top (show (σ 21 0 : Int32) = nI R from hR) ?_
  refine lv_iconst (v := 1) hx hb dX6_layOut_9 (by decide) ?_
  refine lv_isub hx hb dX6_layOut_10 ?_
  refine lv_iload hx hb dX6_layOut_11 (lv_at hl 0 rfl) ?_
  refine lv_isub hx hb dX6_layOut_13 ?_
  refine lv_iload_n hx hb dX6_layOut_14 rfl (lv_at hl 3 rfl) ?_
  refine r_cR hS (r_runN (n := 2) (As := [.int (((nI R) - (1 : Int32)) - ((nI rs) / (2 : Int32))), .int (nI rs)]) (rest := []) CF hK hH (c_X8_quotient l G σ (((nI R) - (1 : Int32)) - ((nI rs) / (2 : Int32))) (nI rs)) gX6_layOut_X8_quotient_n50 rfl rfl rfl hK.2.2.2.2.2.1 K5 K4 (by decide +kernel) ⟨⟨Nat.le_of_ble_eq_true rfl, Nat.le_of_ble_eq_true rfl⟩, Nat.le_of_ble_eq_true rfl, Nat.le_of_ble_eq_true rfl⟩ rfl hl.1 rfl (Nat.le_of_ble_eq_true rfl) dX6_layOut_15) (fun H locs hH hS => ?_)
  refine lv_iconst (v := 1) hx hb dX6_layOut_18 (by decide) ?_
  refine lv_iadd hx hb dX6_layOut_19 ?_
  refine r_top (show (((quo (((nI R) - (1 : Int32)) - ((nI rs) / (2 : Int32))) (nI rs)) + (1 : Int32)) : Int32) = nI N from hnq) ?_
  refine lv_istore (lv' := [(5, .int (nI N)), (4, .int ((nI rs) / (2 : Int32))), (0, .ref (G.2.1 (16 + b))), (1, .ref (G.2.1 21)), (2, .int (nI rs)), (3, .int (nI ps))]) hx hb dX6_layOut_20 hl (by decide) rfl (fun ls hl => ?_)
  refine lv_iload hx hb dX6_layOut_22 (lv_at hl 0 rfl) ?_
  refine lv_aload_n hx hb dX6_layOut_24 rfl (lv_at hl 2 rfl) ?_
  refine r_get CF hK hH (16 + b) (by omega) (we_l G hb2 _) rfl JX6 1 (by decide) K2 rfl dX6_layOut_25 ?_
  refine r_alen (v := 8) CF hK hH (18 + b) (by omega) (we_a G hb2 _) 2 rfl rfl dX6_layOut_28 ?_
  refine lv_icmp_le (tgt := 34) hx hb dX6_layOut_29 (by decide) (fun c29 => ?_) (fun c29 => ?_)
  · have c29 : N ≤ 8 := (nI_leI (a := N) (b := 8) (by omega) (by omega)).mp c29
    refine lv_aload_n hx hb dX6_layOut_34 rfl (lv_at hl 2 rfl) ?_
    refine r_cV hS (r_runV (n := 0) (As := []) (rest := []) CF hK hH (c_X6_clear l G σ b hb2) gX6_layOut_X6_clear rfl rfl rfl rfl (by decide +kernel) ⟨⟨Nat.le_of_ble_eq_true rfl, Nat.le_of_ble_eq_true rfl⟩, Nat.le_of_ble_eq_true rfl, Nat.le_of_ble_eq_true rfl⟩ (16 + b) rfl (by omega) (we_l G hb2 _) rfl rfl hl.1 rfl (Nat.le_of_ble_eq_true rfl) dX6_layOut_35) (fun H locs hH hS => ?_)
    refine lv_iconst (v := 0) hx hb dX6_layOut_38 (by decide) ?_
    refine lv_istore (lv' := [(6, .int (0 : Int32)), (5, .int (nI N)), (4, .int ((nI rs) / (2 : Int32))), (0, .ref (G.2.1 (16 + b))), (1, .ref (G.2.1 21)), (2, .int (nI rs)), (3, .int (nI ps))]) hx hb dX6_layOut_39 hl (by decide) rfl (fun ls hl => ?_)
    have lp41 : ∀ (fu : Nat) (i : Nat) (σ1 : Sg) (H : Heap) (locs : List Loc) (ls : Array Slot), (N + 1 ≤ i + fu) → (i ≤ N) → (σ1 = layS σ b rs ps C i) → Hp G σ1 H → va_S (fr G) sz.heap H locs → lv_has ls 7 [(0, .ref (G.2.1 (16 + b))), (1, .ref (G.2.1 21)), (2, .int (nI rs)), (3, .int (nI ps)), (4, .int (nI rs / (2 : Int32))), (5, .int (nI N)), (6, .int (nI i))] → W pz l ez (rmO 2 49) sz mz (List.toArray [.ref (G.2.1 (16 + b)), .ref (G.2.1 21), .int (nI rs), .int (nI ps)]) below meth cz H locs 0 0 (MQ below (QI G (fun r σ' => if 8 < ndF R rs then r = b2i false ∧ σ' = σ else r = b2i true ∧ σ' = layS σ b rs ps C (ndF R rs))) (List.toArray [.ref (G.2.1 (16 + b)), .ref (G.2.1 21), .int (nI rs), .int (nI ps)]) sz 0 0 (fr G)) (F0 mz 41 ls []) := by
      intro fu
      induction fu with
      | zero => intros; omega
      | succ fu ih41 =>
        intro i σ1 H locs ls hf hi hσ hH hS hl
        refine lv_iload hx hb dX6_layOut_41 (lv_at hl 6 rfl) ?_
        refine lv_iload hx hb dX6_layOut_43 (lv_at hl 5 rfl) ?_
        refine lv_icmp_ge (tgt := 74) hx hb dX6_layOut_45 (by decide) (fun c45 => ?_) (fun c45 => ?_)
        · have c45 : N ≤ i := (nI_leI (a := N) (b := i) (by omega) (by omega)).mp c45
          refine lv_iconst (v := 1) hx hb dX6_layOut_74 (by decide) ?_
          exact r_zret CF hr hlk hH hS rfl dX6_layOut_75 (by rw [if_neg (by rw [hN]; omega)]; have e : i = N := (by omega); exact ⟨rfl, by rw [hσ, hN, e]⟩)
        · have c45 : i < N := Nat.lt_of_not_le (fun zq => c45 ((nI_leI (a := N) (b := i) (by omega) (by omega)).mpr zq))
          refine lv_aload_n hx hb dX6_layOut_48 rfl (lv_at hl 0 rfl) ?_
          refine lv_iload hx hb dX6_layOut_49 (lv_at hl 4 rfl) ?_
          refine lv_iload hx hb dX6_layOut_51 (lv_at hl 6 rfl) ?_
          refine lv_iload_n hx hb dX6_layOut_53 rfl (lv_at hl 2 rfl) ?_
          refine lv_imul hx hb dX6_layOut_54 ?_
          refine lv_iadd hx hb dX6_layOut_55 ?_
          refine r_top (show (((nI rs / (2 : Int32)) + ((nI i) * (nI rs))) : Int32) = nI (rs / 2 + i * rs) from (by rw [show nI rs / 2 = nI (rs / 2) from pk_div (d := 2) (by omega) (by omega) (by omega), pk_mul, nI_add])) ?_
          refine lv_iconst (v := 0) hx hb dX6_layOut_56 (by decide) ?_
          refine lv_aload_n hx hb dX6_layOut_57 rfl (lv_at hl 1 rfl) ?_
          refine r_get CF hK hH 21 (Nat.le_of_ble_eq_true rfl) rfl rfl JX7 1 (by decide) K3 rfl dX6_layOut_58 ?_
          refine r_top (show (σ1 21 1 : Int32) = nI C from (by rw [hσ, layS_n i (by omega) (by omega) (by omega)]; exact hC)) ?_
          refine lv_iconst (v := 1) hx hb dX6_layOut_61 (by decide) ?_
          refine lv_isub hx hb dX6_layOut_62 ?_
          refine r_top (show (((nI C) - (1 : Int32)) : Int32) = nI (C - 1) from (pk_sub (b := 1) (by omega))) ?_
          refine lv_iload_n hx hb dX6_layOut_63 rfl (lv_at hl 3 rfl) ?_
          refine r_calli hS (r_runV (n := 4) (As := [.int (nI (rs / 2 + i * rs)), .int (0 : Int32), .int (nI (C - 1)), .int (nI ps)]) (rest := []) CF hK hH (c_X6_add l G σ1 b hb2 i (by rw [hσ]; exact layS_c _ _ _ _ _ _) (by omega) (nI (rs / 2 + i * rs)) (0 : Int32) (nI (C - 1)) (nI ps)) gX6_layOut_X6_add rfl rfl rfl rfl (by decide +kernel) ⟨⟨Nat.le_of_ble_eq_true rfl, Nat.le_of_ble_eq_true rfl⟩, Nat.le_of_ble_eq_true rfl, Nat.le_of_ble_eq_true rfl⟩ (16 + b) rfl (by omega) (we_l G hb2 _) rfl rfl hl.1 rfl (Nat.le_of_ble_eq_true rfl) dX6_layOut_64) (fun r64 σ64 H locs hq hH hS => ?_)
          rw [if_neg (by omega)] at hq
          obtain ⟨hr1, hσ1⟩ := hq
          rw [hσ1] at hH
          refine lv_pop hx hb dX6_layOut_67 rfl ?_
          refine lv_iinc (v := nI (i + 1)) (lv' := [(6, .int (nI (i + 1))), (0, .ref (G.2.1 (16 + b))), (1, .ref (G.2.1 21)), (2, .int (nI rs)), (3, .int (nI ps)), (4, .int (nI rs / (2 : Int32))), (5, .int (nI N))]) hx hb dX6_layOut_68 hl (k := 6) rfl (nI_1 _) (by decide) rfl (fun ls hl => ?_)
          refine lv_goto (tgt := 41) hx hb dX6_layOut_71 (by decide) ?_
          exact ih41 (i + 1) (addF σ1 b i (nI (rs / 2 + i * rs)) (0 : Int32) (nI (C - 1)) (nI ps)) _ _ ls (by omega) (by omega) (by rw [hσ]; rfl) hH hS (lv_sub hl [1, 2, 3, 4, 5, 6, 0] rfl)
    exact lp41 (N + 1) 0 (u2 σ (16 + b) 0 0) _ _ ls (by omega) (by omega) rfl hH hS (lv_sub hl [3, 4, 5, 6, 2, 1, 0] rfl)
  · have c29 : ¬ N ≤ 8 := fun zq => c29 ((nI_leI (a := N) (b := 8) (by omega) (by omega)).mpr zq)
    refine lv_iconst (v := 0) hx hb dX6_layOut_32 (by decide) ?_
    exact r_zret CF hr hlk hH hS rfl dX6_layOut_33 (by rw [if_pos (by rw [hN]; omega)]; exact ⟨rfl, rfl⟩)

def rmS (σ : Sg) (b j i : Nat) : Sg := fun k f => if (8 * b + j ≤ k ∧ k < 8 * b + i) ∧ f < 4 then σ (k + 1) f else σ k f
theorem rmS_0 (σ : Sg) (b j : Nat) : rmS σ b j j = σ := by
  funext k f
  unfold rmS
  rw [if_neg (by omega)]
theorem rmS_at (σ : Sg) (b j : Nat) {i k : Nat} (h : 8 * b + i ≤ k) : rmS σ b j i k = σ k := by
  funext f
  unfold rmS
  rw [if_neg (by omega)]
theorem rmS_s (σ : Sg) {b j i : Nat} (h : j ≤ i) : u2 (u2 (u2 (u2 (rmS σ b j i) (8 * b + i) 0 (σ (8 * b + (i + 1)) 0)) (8 * b + i) 1 (σ (8 * b + (i + 1)) 1)) (8 * b + i) 2 (σ (8 * b + (i + 1)) 2)) (8 * b + i) 3 (σ (8 * b + (i + 1)) 3) = rmS σ b j (i + 1) := by
  funext k f
  by_cases hk : k = 8 * b + i
  · subst hk
    unfold rmS
    by_cases h0 : f = 0
    · subst h0; rw [if_pos (by omega)]; simp [u2, va_up]; rfl
    by_cases h1 : f = 1
    · subst h1; rw [if_pos (by omega)]; simp [u2, va_up]; rfl
    by_cases h2 : f = 2
    · subst h2; rw [if_pos (by omega)]; simp [u2, va_up]; rfl
    by_cases h3 : f = 3
    · subst h3; rw [if_pos (by omega)]; simp [u2, va_up]; rfl
    rw [if_neg (by omega), u2_sn _ _ _ h3, u2_sn _ _ _ h2, u2_sn _ _ _ h1, u2_sn _ _ _ h0]
    rw [if_neg (by omega)]
  · rw [u2_n _ _ _ hk, u2_n _ _ _ hk, u2_n _ _ _ hk, u2_n _ _ _ hk]
    unfold rmS
    by_cases hc : (8 * b + j ≤ k ∧ k < 8 * b + i) ∧ f < 4
    · rw [if_pos hc, if_pos (by omega)]
    · rw [if_neg hc, if_neg (by omega)]

set_option maxRecDepth 100000 in
set_option maxHeartbeats 4000000 in
theorem c_X6_remove (l : Launch) (G : Gm) (σ : Sg) (b : Nat) (hb2 : b < 2) (n : Nat) (hn : σ (16 + b) 0 = nI n) (hn8 : n ≤ 8) (j : Nat) (hj : j < n) : Met l yX6_remove wsX6_remove (rmO 2 42) (PP G [.ref (G.2.1 (16 + b)), .int (nI j)] σ) (QV G (VV (u2 (rmS σ b j (n - 1)) (16 + b) 0 (nI (n - 1))))) 0 0 (fr G) := by
  refine r_start (cc := cX6_remove) (maxL := 5) (ret := none) (by decide) rfl (Nat.le_of_ble_eq_true rfl) ?_
  intro pz ez sz mz below meth cz ls CF hr hlk hK hH hS hl
  have CF : CallFix pz mz cz cX6_remove 5 sz (List.toArray [.ref (G.2.1 (16 + b)), .int (nI j)]) wsX6_remove RX6 := CF
  have hx := CF.1
  have hb := CF.2.1
  have hown := CF.2.2.2.1
  have hts := CF.2.2.2.2
  have hl : lv_has ls 5 [(0, .ref (G.2.1 (16 + b))), (1, .int (nI j))] := hl
  have K1 := hts _ (List.mem_of_getElem? (i := 1) rfl)
  have K2 := hts _ (List.mem_of_getElem? (i := 2) rfl)
  have K3 := hts _ (List.mem_of_getElem? (i := 3) rfl)
  have K4 := hts _ (List.mem_of_getElem? (i := 4) rfl)
  have K5 := hts _ (List.mem_of_getElem? (i := 5) rfl)
  have JX5 : ∀ w ∈ wsX50, w ∈ wsX6_remove := in_r _ [27, 28, 29, 30] (by decide +kernel)
  have JX6 : ∀ w ∈ wsX60, w ∈ wsX6_remove := in_r _ [25, 26] (by decide +kernel)
  refine lv_aload_n hx hb dX6_remove_0 rfl (lv_at hl 0 rfl) ?_
  refine lv_iload_n hx hb dX6_remove_1 rfl (lv_at hl 1 rfl) ?_
  refine r_callq hS (r_runV (n := 1) (As := [.int (nI j)]) (rest := []) CF hK hH (c_X6_find l G σ b hb2 n (by first | exact hn | (rw [hσ, rmS_at σ b j (by omega)]; exact hn)) hn8 (nI j)) gX6_remove_X6_find rfl rfl rfl rfl (by decide +kernel) ⟨⟨Nat.le_of_ble_eq_true rfl, Nat.le_of_ble_eq_true rfl⟩, Nat.le_of_ble_eq_true rfl, Nat.le_of_ble_eq_true rfl⟩ (16 + b) rfl (by omega) (we_l G hb2 _) rfl rfl hl.1 rfl (Nat.le_of_ble_eq_true rfl) dX6_remove_2) (fun rq2 σq2 H locs hq hH hS => ?_)
  obtain ⟨hσ1, hq⟩ := hq
  rw [hσ1] at hH
  rcases hq with ⟨hn2, hr1⟩ | ⟨j2, hj2, hi2, hr1⟩
  · rw [hr1]
    rw [show va_rf none = Value.null from rfl]
    have hin2 := inB_f hn2
    refine lv_ifnonnullN hx hb dX6_remove_5 ?_
    exact absurd hn2 (no_find (by omega) (by omega))
  · rw [hr1]
    rw [show va_rf (some (G.2.1 (8 * b + j2))) = Value.ref (G.2.1 (8 * b + j2)) from rfl]
    have hin2 := inB_t hj2 hi2 (by omega)
    have hN2 := N_of hi2 (by omega)
    refine lv_ifnonnull (tgt := 9) hx hb dX6_remove_5 (by decide) ?_
    refine lv_iload_n hx hb dX6_remove_9 rfl (lv_at hl 1 rfl) ?_
    refine lv_istore_n (lv' := [(2, .int (nI j)), (0, .ref (G.2.1 (16 + b))), (1, .int (nI j))]) hx hb dX6_remove_10 rfl hl (by decide) rfl (fun ls hl => ?_)
    have lp11 : ∀ (fu : Nat) (i : Nat) (σ1 : Sg) (H : Heap) (locs : List Loc) (ls : Array Slot), (n ≤ i + fu) → (j ≤ i) → (i + 1 ≤ n) → (σ1 = rmS σ b j i) → Hp G σ1 H → va_S (fr G) sz.heap H locs → lv_has ls 5 [(0, .ref (G.2.1 (16 + b))), (1, .int (nI j)), (2, .int (nI i))] → W pz l ez (rmO 2 42) sz mz (List.toArray [.ref (G.2.1 (16 + b)), .int (nI j)]) below meth cz H locs 0 0 (MQ below (QV G (VV (u2 (rmS σ b j (n - 1)) (16 + b) 0 (nI (n - 1))))) (List.toArray [.ref (G.2.1 (16 + b)), .int (nI j)]) sz 0 0 (fr G)) (F0 mz 11 ls []) := by
      intro fu
      induction fu with
      | zero => intros; omega
      | succ fu ih11 =>
        intro i σ1 H locs ls hf hji hi hσ hH hS hl
        refine lv_iload_n hx hb dX6_remove_11 rfl (lv_at hl 2 rfl) ?_
        refine lv_iconst (v := 1) hx hb dX6_remove_12 (by decide) ?_
        refine lv_iadd hx hb dX6_remove_13 ?_
        refine r_top (show (((nI i) + (1 : Int32)) : Int32) = nI (i + 1) from nI_1 i) ?_
        refine lv_aload_n hx hb dX6_remove_14 rfl (lv_at hl 0 rfl) ?_
        refine r_get CF hK hH (16 + b) (by omega) (we_l G hb2 _) rfl JX6 0 (by decide) K1 rfl dX6_remove_15 ?_
        refine r_top (show (σ1 (16 + b) 0 : Int32) = nI n from (by rw [hσ, rmS_at σ b j (by omega)]; exact hn)) ?_
        refine lv_icmp_ge (tgt := 75) hx hb dX6_remove_18 (by decide) (fun c18 => ?_) (fun c18 => ?_)
        · have c18 : n ≤ (i + 1) := (nI_leI (a := n) (b := (i + 1)) (by omega) (by omega)).mp c18
          refine lv_aload_n hx hb dX6_remove_75 rfl (lv_at hl 0 rfl) ?_
          refine lv_dup hx hb dX6_remove_76 rfl ?_
          refine r_get CF hK hH (16 + b) (by omega) (we_l G hb2 _) rfl JX6 0 (by decide) K1 rfl dX6_remove_77 ?_
          refine r_top (show (σ1 (16 + b) 0 : Int32) = nI n from (by rw [hσ, rmS_at σ b j (by omega)]; exact hn)) ?_
          refine lv_iconst (v := 1) hx hb dX6_remove_80 (by decide) ?_
          refine lv_isub hx hb dX6_remove_81 ?_
          refine r_top (show (((nI n) - (1 : Int32)) : Int32) = nI (n - 1) from (pk_sub (b := 1) (by omega))) ?_
          refine r_put CF hK hH hS (16 + b) (by omega) (we_l G hb2 _) rfl JX6 tyX6 tyX6_ok nmX6 0 (by decide) K1 rfl (by decide +kernel) (Nat.le_of_ble_eq_true rfl) (by rw [we_l G hb2]; rfl) dX6_remove_82 (fun H locs hH hS => ?_)
          exact r_vret CF hr hlk hH hS dX6_remove_85 (by have e : i = n - 1 := (by omega); rw [hσ, e])
        · have c18 : (i + 1) < n := Nat.lt_of_not_le (fun zq => c18 ((nI_leI (a := n) (b := (i + 1)) (by omega) (by omega)).mpr zq))
          refine lv_aload_n hx hb dX6_remove_21 rfl (lv_at hl 0 rfl) ?_
          refine lv_iload_n hx hb dX6_remove_22 rfl (lv_at hl 2 rfl) ?_
          refine r_callq hS (r_runV (n := 1) (As := [.int (nI i)]) (rest := []) CF hK hH (c_X6_find l G σ1 b hb2 n (by first | exact hn | (rw [hσ, rmS_at σ b j (by omega)]; exact hn)) hn8 (nI i)) gX6_remove_X6_find rfl rfl rfl rfl (by decide +kernel) ⟨⟨Nat.le_of_ble_eq_true rfl, Nat.le_of_ble_eq_true rfl⟩, Nat.le_of_ble_eq_true rfl, Nat.le_of_ble_eq_true rfl⟩ (16 + b) rfl (by omega) (we_l G hb2 _) rfl rfl hl.1 rfl (Nat.le_of_ble_eq_true rfl) dX6_remove_23) (fun rq23 σq23 H locs hq hH hS => ?_)
          obtain ⟨hσ1, hq⟩ := hq
          rw [hσ1] at hH
          rcases hq with ⟨hn23, hr1⟩ | ⟨j23, hj23, hi23, hr1⟩
          · rw [hr1]
            rw [show va_rf none = Value.null from rfl]
            have hin23 := inB_f hn23
            exact absurd hn23 (no_find (by omega) (by omega))
          · rw [hr1]
            rw [show va_rf (some (G.2.1 (8 * b + j23))) = Value.ref (G.2.1 (8 * b + j23)) from rfl]
            have hin23 := inB_t hj23 hi23 (by omega)
            have hN23 := N_of hi23 (by omega)
            have ej23 : i = j23 := (nI_eq (by omega) (by omega)).mp hi23
            subst ej23
            refine lv_astore_n (lv' := [(3, .ref (G.2.1 (8 * b + i))), (0, .ref (G.2.1 (16 + b))), (1, .int (nI j)), (2, .int (nI i))]) hx hb dX6_remove_26 rfl hl (by decide) rfl (fun ls hl => ?_)
            refine lv_aload_n hx hb dX6_remove_27 rfl (lv_at hl 1 rfl) ?_
            refine lv_iload_n hx hb dX6_remove_28 rfl (lv_at hl 3 rfl) ?_
            refine lv_iconst (v := 1) hx hb dX6_remove_29 (by decide) ?_
            refine lv_iadd hx hb dX6_remove_30 ?_
            refine r_top (show (((nI i) + (1 : Int32)) : Int32) = nI (i + 1) from nI_1 i) ?_
            refine r_callq hS (r_runV (n := 1) (As := [.int (nI (i + 1))]) (rest := []) CF hK hH (c_X6_find l G σ1 b hb2 n (by first | exact hn | (rw [hσ, rmS_at σ b j (by omega)]; exact hn)) hn8 (nI (i + 1))) gX6_remove_X6_find rfl rfl rfl rfl (by decide +kernel) ⟨⟨Nat.le_of_ble_eq_true rfl, Nat.le_of_ble_eq_true rfl⟩, Nat.le_of_ble_eq_true rfl, Nat.le_of_ble_eq_true rfl⟩ (16 + b) rfl (by omega) (we_l G hb2 _) rfl rfl hl.1 rfl (Nat.le_of_ble_eq_true rfl) dX6_remove_31) (fun rq31 σq31 H locs hq hH hS => ?_)
            obtain ⟨hσ1, hq⟩ := hq
            rw [hσ1] at hH
            rcases hq with ⟨hn31, hr1⟩ | ⟨j31, hj31, hi31, hr1⟩
            · rw [hr1]
              rw [show va_rf none = Value.null from rfl]
              have hin31 := inB_f hn31
              exact absurd hn31 (no_find (by omega) (by omega))
            · rw [hr1]
              rw [show va_rf (some (G.2.1 (8 * b + j31))) = Value.ref (G.2.1 (8 * b + j31)) from rfl]
              have hin31 := inB_t hj31 hi31 (by omega)
              have hN31 := N_of hi31 (by omega)
              have ej31 : i + 1 = j31 := (nI_eq (by omega) (by omega)).mp hi31
              subst ej31
              refine lv_astore (lv' := [(4, .ref (G.2.1 (8 * b + (i + 1)))), (3, .ref (G.2.1 (8 * b + i))), (0, .ref (G.2.1 (16 + b))), (1, .int (nI j)), (2, .int (nI i))]) hx hb dX6_remove_34 hl (by decide) rfl (fun ls hl => ?_)
              refine lv_aload_n hx hb dX6_remove_36 rfl (lv_at hl 1 rfl) ?_
              refine lv_ifnull hx hb dX6_remove_37 ?_
              refine lv_aload hx hb dX6_remove_40 (lv_at hl 0 rfl) ?_
              refine lv_ifnull hx hb dX6_remove_42 ?_
              refine lv_aload_n hx hb dX6_remove_45 rfl (lv_at hl 1 rfl) ?_
              refine lv_aload hx hb dX6_remove_46 (lv_at hl 0 rfl) ?_
              refine r_get CF hK hH (8 * b + (i + 1)) (by omega) (we_s G (by omega) _) rfl JX5 0 (by decide) K2 rfl dX6_remove_48 ?_
              refine r_top (show (σ1 (8 * b + (i + 1)) 0 : Int32) = σ (8 * b + (i + 1)) 0 from (by rw [hσ, rmS_at σ b j (by omega)])) ?_
              refine lv_aload hx hb dX6_remove_51 (lv_at hl 0 rfl) ?_
              refine r_get CF hK hH (8 * b + (i + 1)) (by omega) (we_s G (by omega) _) rfl JX5 1 (by decide) K3 rfl dX6_remove_53 ?_
              refine r_top (show (σ1 (8 * b + (i + 1)) 1 : Int32) = σ (8 * b + (i + 1)) 1 from (by rw [hσ, rmS_at σ b j (by omega)])) ?_
              refine lv_aload hx hb dX6_remove_56 (lv_at hl 0 rfl) ?_
              refine r_get CF hK hH (8 * b + (i + 1)) (by omega) (we_s G (by omega) _) rfl JX5 2 (by decide) K4 rfl dX6_remove_58 ?_
              refine r_top (show (σ1 (8 * b + (i + 1)) 2 : Int32) = σ (8 * b + (i + 1)) 2 from (by rw [hσ, rmS_at σ b j (by omega)])) ?_
              refine lv_aload hx hb dX6_remove_61 (lv_at hl 0 rfl) ?_
              refine r_get CF hK hH (8 * b + (i + 1)) (by omega) (we_s G (by omega) _) rfl JX5 3 (by decide) K5 rfl dX6_remove_63 ?_
              refine r_top (show (σ1 (8 * b + (i + 1)) 3 : Int32) = σ (8 * b + (i + 1)) 3 from (by rw [hσ, rmS_at σ b j (by omega)])) ?_
              refine r_cV hS (r_runV (n := 4) (As := [.int (σ (8 * b + (i + 1)) 0), .int (σ (8 * b + (i + 1)) 1), .int (σ (8 * b + (i + 1)) 2), .int (σ (8 * b + (i + 1)) 3)]) (rest := []) CF hK hH (c_X5_put l G σ1 (8 * b + i) (by omega) (σ (8 * b + (i + 1)) 0) (σ (8 * b + (i + 1)) 1) (σ (8 * b + (i + 1)) 2) (σ (8 * b + (i + 1)) 3)) gX6_remove_X5_put rfl rfl rfl rfl (by decide +kernel) ⟨⟨Nat.le_of_ble_eq_true rfl, Nat.le_of_ble_eq_true rfl⟩, Nat.le_of_ble_eq_true rfl, Nat.le_of_ble_eq_true rfl⟩ (8 * b + i) rfl (by omega) (we_s G (by omega) _) rfl rfl hl.1 rfl (Nat.le_of_ble_eq_true rfl) dX6_remove_66) (fun H locs hH hS => ?_)
              refine lv_iinc (v := nI (i + 1)) (lv' := [(2, .int (nI (i + 1))), (4, .ref (G.2.1 (8 * b + (i + 1)))), (3, .ref (G.2.1 (8 * b + i))), (0, .ref (G.2.1 (16 + b))), (1, .int (nI j))]) hx hb dX6_remove_69 hl (k := 4) rfl (nI_1 _) (by decide) rfl (fun ls hl => ?_)
              refine lv_goto (tgt := 11) hx hb dX6_remove_72 (by decide) ?_
              exact ih11 (i + 1) (u2 (u2 (u2 (u2 σ1 (8 * b + i) 0 (σ (8 * b + (i + 1)) 0)) (8 * b + i) 1 (σ (8 * b + (i + 1)) 1)) (8 * b + i) 2 (σ (8 * b + (i + 1)) 2)) (8 * b + i) 3 (σ (8 * b + (i + 1)) 3)) _ _ ls (by omega) (by omega) (by omega) (by rw [hσ]; exact rmS_s σ hji) hH hS (lv_sub hl [3, 4, 0] rfl)
    exact lp11 (n + 1) j σ _ _ ls (by omega) (by omega) (by omega) (rmS_0 σ b j).symm hH hS (lv_sub hl [1, 2, 0] rfl)
