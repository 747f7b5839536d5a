theorem mn2_le (a b : Nat) : mn2 a b ≤ a := by unfold mn2; split <;> omega
theorem ne_nI0 {a : Nat} (h : ¬ a = 0) (h2 : a < 2 ^ 31) : ¬ nI a = 0 := fun q => h ((nI_eq (b := 0) h2 (by omega)).mp q)

set_option maxRecDepth 100000 in
set_option maxHeartbeats 4000000 in
theorem c_X9_percent (l : Launch) (G : Gm) (σ : Sg) (a b c : Nat) (hb1 : b < 2 ^ 20) (hc1 : c < 2 ^ 20) : Met l yX9_percent wsX9_percent (rmO 0 0) (PP G [.int (nI a), .int (nI b), .int (nI c)] σ) (QI G (RV (pct a b c) σ)) 0 0 (fr G) := by
  refine r_start (cc := cX9_percent) (maxL := 4) (ret := (some .int)) (by decide) rfl (Nat.le_of_ble_eq_true rfl) ?_
  intro pz ez sz mz below meth cz ls CF hr hlk hK hH hS hl
  have CF : CallFix pz mz cz cX9_percent 4 sz (List.toArray [.int (nI a), .int (nI b), .int (nI c)]) wsX9_percent RX9 := CF
  have hx := CF.1
  have hb := CF.2.1
  have hown := CF.2.2.2.1
  have hts := CF.2.2.2.2
  have hl : lv_has ls 4 [(0, .int (nI a)), (1, .int (nI b)), (2, .int (nI c))] := hl
  refine lv_iload_n hx hb dX9_percent_0 rfl (lv_at hl 1 rfl) ?_
  refine lv_iload_n hx hb dX9_percent_1 rfl (lv_at hl 2 rfl) ?_
  refine lv_icmp_ge (tgt := 9) hx hb dX9_percent_2 (by decide) (fun c2 => ?_) (fun c2 => ?_)
  · have c2 : ¬ b < c := (by have := (nI_leI (a := c) (b := b) (by omega) (by omega)).mp c2; omega)
    have em : mn2 b c = c := if_neg c2
    refine lv_iload_n hx hb dX9_percent_9 rfl (lv_at hl 2 rfl) ?_
    refine lv_istore_n (lv' := [(3, .int (nI c)), (0, .int (nI a)), (1, .int (nI b)), (2, .int (nI c))]) hx hb dX9_percent_10 rfl hl (by decide) rfl (fun ls hl => ?_)
    refine lv_iload_n hx hb dX9_percent_11 rfl (lv_at hl 0 rfl) ?_
    refine lv_if_ne (tgt := 19) hx hb dX9_percent_12 (by decide) (fun c12 => ?_) (fun c12 => ?_)
    · have c12 : ¬ c = 0 := fun zq => c12 (by rw [zq]; rfl)
      refine lv_iload_n hx hb dX9_percent_19 rfl (lv_at hl 1 rfl) ?_
      refine lv_bipush (v := 100) hx hb dX9_percent_20 (by decide) ?_
      refine lv_imul hx hb dX9_percent_22 ?_
      refine lv_iload_n hx hb dX9_percent_23 rfl (lv_at hl 0 rfl) ?_
      refine lv_idiv hx hb dX9_percent_24 (ne_nI0 c12 (by omega)) ?_
      exact r_iret CF hr hlk hH hS dX9_percent_25 ⟨by unfold pct; rw [em, if_neg c12]; exact congrArg (· / _) (pk_mul a 100), rfl⟩
    · have c12 : c = 0 := (nI_eq (b := 0) (by omega) (by omega)).mp c12
      refine lv_iconst (v := 0) hx hb dX9_percent_15 (by decide) ?_
      refine lv_goto (tgt := 25) hx hb dX9_percent_16 (by decide) ?_
      exact r_iret CF hr hlk hH hS dX9_percent_25 ⟨by unfold pct; rw [em, if_pos c12], rfl⟩
  · have c2 : b < c := Nat.lt_of_not_le (fun zq => c2 (nI_le zq (by omega)))
    have em : mn2 b c = b := if_pos c2
    refine lv_iload_n hx hb dX9_percent_5 rfl (lv_at hl 1 rfl) ?_
    refine lv_goto (tgt := 10) hx hb dX9_percent_6 (by decide) ?_
    refine lv_istore_n (lv' := [(3, .int (nI b)), (0, .int (nI a)), (1, .int (nI b)), (2, .int (nI c))]) hx hb dX9_percent_10 rfl hl (by decide) rfl (fun ls hl => ?_)
    refine lv_iload_n hx hb dX9_percent_11 rfl (lv_at hl 0 rfl) ?_
    refine lv_if_ne (tgt := 19) hx hb dX9_percent_12 (by decide) (fun c12 => ?_) (fun c12 => ?_)
    · have c12 : ¬ b = 0 := fun zq => c12 (by rw [zq]; rfl)
      refine lv_iload_n hx hb dX9_percent_19 rfl (lv_at hl 1 rfl) ?_
      refine lv_bipush (v := 100) hx hb dX9_percent_20 (by decide) ?_
      refine lv_imul hx hb dX9_percent_22 ?_
      refine lv_iload_n hx hb dX9_percent_23 rfl (lv_at hl 0 rfl) ?_
      refine lv_idiv hx hb dX9_percent_24 (ne_nI0 c12 (by omega)) ?_
      exact r_iret CF hr hlk hH hS dX9_percent_25 ⟨by unfold pct; rw [em, if_neg c12]; exact congrArg (· / _) (pk_mul a 100), rfl⟩
    · have c12 : b = 0 := (nI_eq (b := 0) (by omega) (by omega)).mp c12
      refine lv_iconst (v := 0) hx hb dX9_percent_15 (by decide) ?_
      refine lv_goto (tgt := 25) hx hb dX9_percent_16 (by decide) ?_
      exact r_iret CF hr hlk hH hS dX9_percent_25 ⟨by unfold pct; rw [em, if_pos c12], rfl⟩

theorem cp_ge0 {n : Nat} {sq : Nat → S4} {x p : Int32} (h : 0 ≤ cpF n sq x p) : cpF n sq x p = 0 := by
  unfold cpF at *
  cases h1 : inB x n with
  | false => rw [h1] at h; exact absurd (show (0 : Int32) ≤ -2 from h) (by decide)
  | true =>
    rw [h1] at h
    cases h2 : inB p (phF (sq (NN x))) with
    | false => rw [h2] at h; exact absurd (show (0 : Int32) ≤ -3 from h) (by decide)
    | true => rfl
theorem fw_neg {R C : Nat} {g : Nat → Int32} {cm : Cm} {n : Nat} {sq : Nat → S4} {x p : Int32} (h : ¬ 0 ≤ cpF n sq x p) : cpF n sq x p = aFwd R C g cm n sq x p := by
  unfold aFwd
  unfold cpF at *
  cases h1 : inB x n with
  | false => rfl
  | true =>
    rw [h1] at h
    cases h2 : inB p (phF (sq (NN x))) with
    | false => rfl
    | true => rw [h2] at h; exact absurd (show (0 : Int32) ≤ 0 by decide) h

set_option maxRecDepth 100000 in
set_option maxHeartbeats 4000000 in
theorem c_X9_forwardOverlap (l : Launch) (G : Gm) (σ : Sg) (R C n : Nat) (sq : Nat → S4) (hA : MA σ R C n sq) (x p : Int32) : Met l yX9_forwardOverlap wsX9_forwardOverlap (rmO 5 127) (PP G [.ref (G.2.1 29), .int x, .int p] σ) (QI G (RV (aFwd R C (σ 30) (cmM σ) n sq x p) σ)) 0 0 (fr G) := by
  refine r_start (cc := cX9_forwardOverlap) (maxL := 6) (ret := (some .int)) (by decide) rfl (Nat.le_of_ble_eq_true rfl) ?_
  intro pz ez sz mz below meth cz ls CF hr hlk hK hH hS hl
  have CF : CallFix pz mz cz cX9_forwardOverlap 6 sz (List.toArray [.ref (G.2.1 29), .int x, .int p]) wsX9_forwardOverlap RX9 := CF
  have hx := CF.1
  have hb := CF.2.1
  have hown := CF.2.2.2.1
  have hts := CF.2.2.2.2
  have hl : lv_has ls 6 [(0, .ref (G.2.1 29)), (1, .int x), (2, .int p)] := hl
  have K1 := hts _ (List.mem_of_getElem? (i := 1) rfl)
  have K2 := hts _ (List.mem_of_getElem? (i := 2) rfl)
  have JX9 : ∀ w ∈ wsX90, w ∈ wsX9_forwardOverlap := in_r _ [58, 59, 60, 61, 62, 63, 64, 65, 66, 67, 68, 69, 70, 71, 72, 73, 74, 75, 76, 77] (by decide +kernel)
  obtain ⟨hR, hC, hR3, hR10, hC4, hC16, hM⟩ := hA
  have hn := hM.1
  have hn8 := hM.2.1
  have hRC := RC_le hR10 hC16
  refine lv_aload_n hx hb dX9_forwardOverlap_0 rfl (lv_at hl 0 rfl) ?_
  refine lv_iload_n hx hb dX9_forwardOverlap_1 rfl (lv_at hl 1 rfl) ?_
  refine lv_iload_n hx hb dX9_forwardOverlap_2 rfl (lv_at hl 2 rfl) ?_
  refine r_cR hS (r_runV (n := 2) (As := [.int x, .int p]) (rest := []) CF hK hH (c_X9_checkPhoto l G σ n sq hM x p) gX9_forwardOverlap_X9_checkPhoto rfl rfl rfl rfl (by decide +kernel) ⟨⟨Nat.le_of_ble_eq_true rfl, Nat.le_of_ble_eq_true rfl⟩, Nat.le_of_ble_eq_true rfl, Nat.le_of_ble_eq_true rfl⟩ 29 rfl (Nat.le_of_ble_eq_true rfl) rfl rfl rfl hl.1 rfl (Nat.le_of_ble_eq_true rfl) dX9_forwardOverlap_3) (fun H locs hH hS => ?_)
  refine lv_istore_n (lv' := [(3, .int (cpF n sq x p)), (0, .ref (G.2.1 29)), (1, .int x), (2, .int p)]) hx hb dX9_forwardOverlap_6 rfl hl (by decide) rfl (fun ls hl => ?_)
  refine lv_iload_n hx hb dX9_forwardOverlap_7 rfl (lv_at hl 0 rfl) ?_
  refine lv_if_ne (tgt := 25) hx hb dX9_forwardOverlap_8 (by decide) (fun c8 => ?_) (fun c8 => ?_)
  · have c8n := c8
    refine lv_iload_n hx hb dX9_forwardOverlap_25 rfl (lv_at hl 0 rfl) ?_
    refine lv_if_ge (tgt := 31) hx hb dX9_forwardOverlap_26 (by decide) (fun c26 => ?_) (fun c26 => ?_)
    · exact absurd (cp_ge0 c26) c8n
    · refine lv_iload_n hx hb dX9_forwardOverlap_29 rfl (lv_at hl 0 rfl) ?_
      exact r_iret CF hr hlk hH hS dX9_forwardOverlap_30 ⟨fw_neg (fun q => c26 q), rfl⟩
  · obtain ⟨i, k, hi, hk, ei, ek, eiN, ekN, hin1, hin2, hk16⟩ := cp_ok hn8 (fun i hi => (hM.2.2 i hi).2.2.2.2) (show 0 ≤ cpF n sq x p by rw [c8]; decide)
    have hph := phF_le (hM.2.2 i hi).2.2.2.2
    refine lv_iload_n hx hb dX9_forwardOverlap_11 rfl (lv_at hl 3 rfl) ?_
    refine lv_iconst (v := 1) hx hb dX9_forwardOverlap_12 (by decide) ?_
    refine lv_iadd hx hb dX9_forwardOverlap_13 ?_
    refine r_top (show ((p + (1 : Int32)) : Int32) = nI (k + 1) from (by rw [ek]; exact nI_1 k)) ?_
    refine lv_aload_n hx hb dX9_forwardOverlap_14 rfl (lv_at hl 1 rfl) ?_
    refine lv_iload_n hx hb dX9_forwardOverlap_15 rfl (lv_at hl 2 rfl) ?_
    refine r_top (show (x : Int32) = nI i from ei) ?_
    refine r_cR hS (r_runV (n := 1) (As := [.int (nI i)]) (rest := [.int (nI (k + 1))]) CF hK hH (c_X9_photosOf l G σ n sq hM i (by omega)) gX9_forwardOverlap_X9_photosOf rfl rfl rfl rfl (by decide +kernel) ⟨⟨Nat.le_of_ble_eq_true rfl, Nat.le_of_ble_eq_true rfl⟩, Nat.le_of_ble_eq_true rfl, Nat.le_of_ble_eq_true rfl⟩ 29 rfl (Nat.le_of_ble_eq_true rfl) rfl rfl rfl hl.1 rfl (Nat.le_of_ble_eq_true rfl) dX9_forwardOverlap_16) (fun H locs hH hS => ?_)
    refine lv_icmp_ne (tgt := 25) hx hb dX9_forwardOverlap_19 (by decide) (fun c19 => ?_) (fun c19 => ?_)
    · have c19 : ¬ k + 1 = phF (sq i) := fun zq => c19 (by rw [zq])
      have hin3 : inB (p + 1) (phF (sq i)) = true := inB_t (j := k + 1) (by omega) (by rw [ek]; exact nI_1 k) (by omega)
      refine lv_iload_n hx hb dX9_forwardOverlap_25 rfl (lv_at hl 0 rfl) ?_
      refine lv_if_ge (tgt := 31) hx hb dX9_forwardOverlap_26 (by decide) (fun c26 => ?_) (fun c26 => ?_)
      · refine lv_iconst (v := 0) hx hb dX9_forwardOverlap_31 (by decide) ?_
        refine lv_istore (lv' := [(4, .int (0 : Int32)), (3, .int (cpF n sq x p)), (0, .ref (G.2.1 29)), (1, .int x), (2, .int p)]) hx hb dX9_forwardOverlap_32 hl (by decide) rfl (fun ls hl => ?_)
        refine lv_iconst (v := 0) hx hb dX9_forwardOverlap_34 (by decide) ?_
        refine lv_istore (lv' := [(5, .int (0 : Int32)), (4, .int (0 : Int32)), (3, .int (cpF n sq x p)), (0, .ref (G.2.1 29)), (1, .int x), (2, .int p)]) hx hb dX9_forwardOverlap_35 hl (by decide) rfl (fun ls hl => ?_)
        have lp37 : ∀ (fu : Nat) (z : Nat) (x4 : Int32) (H : Heap) (locs : List Loc) (ls : Array Slot), (R * C + 1 ≤ z + fu) → (z ≤ R * C) → (x4 = nI (cnt (fun z => fpP (σ 30) (cmM σ) (sq i) k C z && fpP (σ 30) (cmM σ) (sq i) (k + 1) C z) z)) → Hp G σ H → va_S (fr G) sz.heap H locs → lv_has ls 6 [(0, .ref (G.2.1 29)), (1, .int x), (2, .int p), (4, .int x4), (5, .int (nI z))] → W pz l ez (rmO 5 127) sz mz (List.toArray [.ref (G.2.1 29), .int x, .int p]) below meth cz H locs 0 0 (MQ below (QI G (RV (aFwd R C (σ 30) (cmM σ) n sq x p) σ)) (List.toArray [.ref (G.2.1 29), .int x, .int p]) sz 0 0 (fr G)) (F0 mz 37 ls []) := by
          intro fu
          induction fu with
          | zero => intros; omega
          | succ fu ih37 =>
            intro z x4 H locs ls hf hzl hz hH hS hl
            refine lv_iload hx hb dX9_forwardOverlap_37 (lv_at hl 4 rfl) ?_
            refine lv_aload_n hx hb dX9_forwardOverlap_39 rfl (lv_at hl 0 rfl) ?_
            refine r_get CF hK hH 29 (Nat.le_of_ble_eq_true rfl) rfl rfl JX9 0 (by decide) K1 rfl dX9_forwardOverlap_40 ?_
            refine r_top (show (σ 29 0 : Int32) = nI R from hR) ?_
            refine lv_aload_n hx hb dX9_forwardOverlap_43 rfl (lv_at hl 0 rfl) ?_
            refine r_get CF hK hH 29 (Nat.le_of_ble_eq_true rfl) rfl rfl JX9 1 (by decide) K2 rfl dX9_forwardOverlap_44 ?_
            refine r_top (show (σ 29 1 : Int32) = nI C from hC) ?_
            refine lv_imul hx hb dX9_forwardOverlap_47 ?_
            refine r_top (show (((nI R) * (nI C)) : Int32) = nI (R * C) from pk_mul R C) ?_
            refine lv_icmp_ge (tgt := 91) hx hb dX9_forwardOverlap_48 (by decide) (fun c48 => ?_) (fun c48 => ?_)
            · have c48 : (R * C) ≤ z := (nI_leI (a := (R * C)) (b := z) (by omega) (by omega)).mp c48
              refine lv_iload hx hb dX9_forwardOverlap_91 (lv_at hl 3 rfl) ?_
              refine r_top (show (x4 : Int32) = nI (cnt (fun z => fpP (σ 30) (cmM σ) (sq i) k C z && fpP (σ 30) (cmM σ) (sq i) (k + 1) C z) (R * C)) from (by have e : z = R * C := (by omega); rw [hz, e])) ?_
              refine lv_aload_n hx hb dX9_forwardOverlap_93 rfl (lv_at hl 0 rfl) ?_
              refine lv_iload_n hx hb dX9_forwardOverlap_94 rfl (lv_at hl 1 rfl) ?_
              refine r_top (show (x : Int32) = nI i from ei) ?_
              refine lv_iload_n hx hb dX9_forwardOverlap_95 rfl (lv_at hl 2 rfl) ?_
              refine r_top (show (p : Int32) = nI k from ek) ?_
              refine r_cR hS (r_runV (n := 2) (As := [.int (nI i), .int (nI k)]) (rest := [.int (nI (cnt (fun z => fpP (σ 30) (cmM σ) (sq i) k C z && fpP (σ 30) (cmM σ) (sq i) (k + 1) C z) (R * C)))]) CF hK hH (c_X9_footprint l G σ R C n sq ⟨hR, hC, hR3, hR10, hC4, hC16, hM⟩ i k (by omega) (by omega)) gX9_forwardOverlap_X9_footprint rfl rfl rfl rfl (by decide +kernel) ⟨⟨Nat.le_of_ble_eq_true rfl, Nat.le_of_ble_eq_true rfl⟩, Nat.le_of_ble_eq_true rfl, Nat.le_of_ble_eq_true rfl⟩ 29 rfl (Nat.le_of_ble_eq_true rfl) rfl rfl rfl hl.1 rfl (Nat.le_of_ble_eq_true rfl) dX9_forwardOverlap_96) (fun H locs hH hS => ?_)
              refine lv_aload_n hx hb dX9_forwardOverlap_99 rfl (lv_at hl 0 rfl) ?_
              refine lv_iload_n hx hb dX9_forwardOverlap_100 rfl (lv_at hl 1 rfl) ?_
              refine r_top (show (x : Int32) = nI i from ei) ?_
              refine lv_iload_n hx hb dX9_forwardOverlap_101 rfl (lv_at hl 2 rfl) ?_
              refine lv_iconst (v := 1) hx hb dX9_forwardOverlap_102 (by decide) ?_
              refine lv_iadd hx hb dX9_forwardOverlap_103 ?_
              refine r_top (show ((p + (1 : Int32)) : Int32) = nI (k + 1) from (by rw [ek]; exact nI_1 k)) ?_
              refine r_cR hS (r_runV (n := 2) (As := [.int (nI i), .int (nI (k + 1))]) (rest := [.int (nI (cnt (fpP (σ 30) (cmM σ) (sq i) k C) (R * C))), .int (nI (cnt (fun z => fpP (σ 30) (cmM σ) (sq i) k C z && fpP (σ 30) (cmM σ) (sq i) (k + 1) C z) (R * C)))]) CF hK hH (c_X9_footprint l G σ R C n sq ⟨hR, hC, hR3, hR10, hC4, hC16, hM⟩ i (k + 1) (by omega) (by omega)) gX9_forwardOverlap_X9_footprint rfl rfl rfl rfl (by decide +kernel) ⟨⟨Nat.le_of_ble_eq_true rfl, Nat.le_of_ble_eq_true rfl⟩, Nat.le_of_ble_eq_true rfl, Nat.le_of_ble_eq_true rfl⟩ 29 rfl (Nat.le_of_ble_eq_true rfl) rfl rfl rfl hl.1 rfl (Nat.le_of_ble_eq_true rfl) dX9_forwardOverlap_104) (fun H locs hH hS => ?_)
              have q20a := cnt_lt20 (fpP (σ 30) (cmM σ) (sq i) k C) hR10 hC16
              have q20b := cnt_lt20 (fpP (σ 30) (cmM σ) (sq i) (k + 1) C) hR10 hC16
              refine r_cR hS (r_runS (n := 3) (As := [.int (nI (cnt (fun z => fpP (σ 30) (cmM σ) (sq i) k C z && fpP (σ 30) (cmM σ) (sq i) (k + 1) C z) (R * C))), .int (nI (cnt (fpP (σ 30) (cmM σ) (sq i) k C) (R * C))), .int (nI (cnt (fpP (σ 30) (cmM σ) (sq i) (k + 1) C) (R * C)))]) (rest := []) CF hK hH (c_X9_percent l G σ (cnt (fun z => fpP (σ 30) (cmM σ) (sq i) k C z && fpP (σ 30) (cmM σ) (sq i) (k + 1) C z) (R * C)) (cnt (fpP (σ 30) (cmM σ) (sq i) k C) (R * C)) (cnt (fpP (σ 30) (cmM σ) (sq i) (k + 1) C) (R * C)) (by omega) (by omega)) gX9_forwardOverlap_X9_percent rfl rfl rfl (by decide +kernel) ⟨⟨Nat.le_of_ble_eq_true rfl, Nat.le_of_ble_eq_true rfl⟩, Nat.le_of_ble_eq_true rfl, Nat.le_of_ble_eq_true rfl⟩ rfl hl.1 rfl (Nat.le_of_ble_eq_true rfl) dX9_forwardOverlap_107) (fun H locs hH hS => ?_)
              exact r_iret CF hr hlk hH hS dX9_forwardOverlap_110 ⟨by simp [aFwd, hin1, eiN, ekN, hin2, hin3], rfl⟩
            · have c48 : z < (R * C) := Nat.lt_of_not_le (fun zq => c48 ((nI_leI (a := (R * C)) (b := z) (by omega) (by omega)).mpr zq))
              refine lv_iload hx hb dX9_forwardOverlap_51 (lv_at hl 3 rfl) ?_
              refine lv_aload_n hx hb dX9_forwardOverlap_53 rfl (lv_at hl 0 rfl) ?_
              refine lv_iload_n hx hb dX9_forwardOverlap_54 rfl (lv_at hl 1 rfl) ?_
              refine r_top (show (x : Int32) = nI i from ei) ?_
              refine lv_iload_n hx hb dX9_forwardOverlap_55 rfl (lv_at hl 2 rfl) ?_
              refine r_top (show (p : Int32) = nI k from ek) ?_
              refine lv_iload hx hb dX9_forwardOverlap_56 (lv_at hl 4 rfl) ?_
              refine r_cR hS (r_runV (n := 3) (As := [.int (nI i), .int (nI k), .int (nI z)]) (rest := [.int x4]) CF hK hH (c_X9_photoSees l G σ R C n sq ⟨hR, hC, hR3, hR10, hC4, hC16, hM⟩ i k z (by omega) (by omega) (by omega)) gX9_forwardOverlap_X9_photoSees rfl rfl rfl rfl (by decide +kernel) ⟨⟨Nat.le_of_ble_eq_true rfl, Nat.le_of_ble_eq_true rfl⟩, Nat.le_of_ble_eq_true rfl, Nat.le_of_ble_eq_true rfl⟩ 29 rfl (Nat.le_of_ble_eq_true rfl) rfl rfl rfl hl.1 rfl (Nat.le_of_ble_eq_true rfl) dX9_forwardOverlap_58) (fun H locs hH hS => ?_)
              refine r_ifeqB (tgt := 81) hx hb dX9_forwardOverlap_61 (by decide) (fun c61 => ?_) (fun c61 => ?_)
              · refine lv_iconst (v := 0) hx hb dX9_forwardOverlap_81 (by decide) ?_
                refine lv_iadd hx hb dX9_forwardOverlap_82 ?_
                refine lv_istore (lv' := [(4, .int (x4 + (0 : Int32))), (0, .ref (G.2.1 29)), (1, .int x), (2, .int p), (5, .int (nI z))]) hx hb dX9_forwardOverlap_83 hl (by decide) rfl (fun ls hl => ?_)
                refine lv_iinc (v := nI (z + 1)) (lv' := [(5, .int (nI (z + 1))), (4, .int (x4 + (0 : Int32))), (0, .ref (G.2.1 29)), (1, .int x), (2, .int p)]) hx hb dX9_forwardOverlap_85 hl (k := 4) rfl (nI_1 _) (by decide) rfl (fun ls hl => ?_)
                refine lv_goto (tgt := 37) hx hb dX9_forwardOverlap_88 (by decide) ?_
                exact ih37 (z + 1) (x4 + (0 : Int32)) _ _ ls (by omega) (by omega) (by rw [cnt_f (p := fun z => fpP (σ 30) (cmM σ) (sq i) k C z && fpP (σ 30) (cmM σ) (sq i) (k + 1) C z) (by simp only [fpP, c61, Bool.and_false, Bool.false_and]), hz]; simp) hH hS (lv_sub hl [2, 3, 4, 1, 0] rfl)
              · refine lv_aload_n hx hb dX9_forwardOverlap_64 rfl (lv_at hl 0 rfl) ?_
                refine lv_iload_n hx hb dX9_forwardOverlap_65 rfl (lv_at hl 1 rfl) ?_
                refine r_top (show (x : Int32) = nI i from ei) ?_
                refine lv_iload_n hx hb dX9_forwardOverlap_66 rfl (lv_at hl 2 rfl) ?_
                refine lv_iconst (v := 1) hx hb dX9_forwardOverlap_67 (by decide) ?_
                refine lv_iadd hx hb dX9_forwardOverlap_68 ?_
                refine r_top (show ((p + (1 : Int32)) : Int32) = nI (k + 1) from (by rw [ek]; exact nI_1 k)) ?_
                refine lv_iload hx hb dX9_forwardOverlap_69 (lv_at hl 4 rfl) ?_
                refine r_cR hS (r_runV (n := 3) (As := [.int (nI i), .int (nI (k + 1)), .int (nI z)]) (rest := [.int x4]) CF hK hH (c_X9_photoSees l G σ R C n sq ⟨hR, hC, hR3, hR10, hC4, hC16, hM⟩ i (k + 1) z (by omega) (by omega) (by omega)) gX9_forwardOverlap_X9_photoSees rfl rfl rfl rfl (by decide +kernel) ⟨⟨Nat.le_of_ble_eq_true rfl, Nat.le_of_ble_eq_true rfl⟩, Nat.le_of_ble_eq_true rfl, Nat.le_of_ble_eq_true rfl⟩ 29 rfl (Nat.le_of_ble_eq_true rfl) rfl rfl rfl hl.1 rfl (Nat.le_of_ble_eq_true rfl) dX9_forwardOverlap_71) (fun H locs hH hS => ?_)
                refine r_ifeqB (tgt := 81) hx hb dX9_forwardOverlap_74 (by decide) (fun c74 => ?_) (fun c74 => ?_)
                · refine lv_iconst (v := 0) hx hb dX9_forwardOverlap_81 (by decide) ?_
                  refine lv_iadd hx hb dX9_forwardOverlap_82 ?_
                  refine lv_istore (lv' := [(4, .int (x4 + (0 : Int32))), (0, .ref (G.2.1 29)), (1, .int x), (2, .int p), (5, .int (nI z))]) hx hb dX9_forwardOverlap_83 hl (by decide) rfl (fun ls hl => ?_)
                  refine lv_iinc (v := nI (z + 1)) (lv' := [(5, .int (nI (z + 1))), (4, .int (x4 + (0 : Int32))), (0, .ref (G.2.1 29)), (1, .int x), (2, .int p)]) hx hb dX9_forwardOverlap_85 hl (k := 4) rfl (nI_1 _) (by decide) rfl (fun ls hl => ?_)
                  refine lv_goto (tgt := 37) hx hb dX9_forwardOverlap_88 (by decide) ?_
                  exact ih37 (z + 1) (x4 + (0 : Int32)) _ _ ls (by omega) (by omega) (by rw [cnt_f (p := fun z => fpP (σ 30) (cmM σ) (sq i) k C z && fpP (σ 30) (cmM σ) (sq i) (k + 1) C z) (by simp only [fpP, c74, Bool.and_false, Bool.false_and]), hz]; simp) hH hS (lv_sub hl [2, 3, 4, 1, 0] rfl)
                · refine lv_iconst (v := 1) hx hb dX9_forwardOverlap_77 (by decide) ?_
                  refine lv_goto (tgt := 82) hx hb dX9_forwardOverlap_78 (by decide) ?_
                  refine lv_iadd hx hb dX9_forwardOverlap_82 ?_
                  refine lv_istore (lv' := [(4, .int (x4 + (1 : Int32))), (0, .ref (G.2.1 29)), (1, .int x), (2, .int p), (5, .int (nI z))]) hx hb dX9_forwardOverlap_83 hl (by decide) rfl (fun ls hl => ?_)
                  refine lv_iinc (v := nI (z + 1)) (lv' := [(5, .int (nI (z + 1))), (4, .int (x4 + (1 : Int32))), (0, .ref (G.2.1 29)), (1, .int x), (2, .int p)]) hx hb dX9_forwardOverlap_85 hl (k := 4) rfl (nI_1 _) (by decide) rfl (fun ls hl => ?_)
                  refine lv_goto (tgt := 37) hx hb dX9_forwardOverlap_88 (by decide) ?_
                  exact ih37 (z + 1) (x4 + (1 : Int32)) _ _ ls (by omega) (by omega) (cntT (p := fun z => fpP (σ 30) (cmM σ) (sq i) k C z && fpP (σ 30) (cmM σ) (sq i) (k + 1) C z) (by simp only [fpP, c61, c74, Bool.and_self]) hz) hH hS (lv_sub hl [2, 3, 4, 1, 0] rfl)
        exact lp37 (R * C + 1) 0 (0 : Int32) _ _ ls (by omega) (by omega) rfl hH hS (lv_sub hl [3, 4, 5, 1, 0] rfl)
      · exact absurd (by rw [c8]; decide) c26
    · have c19 : k + 1 = phF (sq i) := (nI_eq (by omega) (by omega)).mp c19
      have hin3 : inB (p + 1) (phF (sq i)) = false := inB_f (Or.inr (by rw [ek, nI_1, ← c19]; exact nI_le (Nat.le_refl _) (by omega)))
      refine lv_bipush (v := (-3)) hx hb dX9_forwardOverlap_22 (by decide) ?_
      refine lv_istore_n (lv' := [(3, .int (-3 : Int32)), (0, .ref (G.2.1 29)), (1, .int x), (2, .int p)]) hx hb dX9_forwardOverlap_24 rfl hl (by decide) rfl (fun ls hl => ?_)
      refine lv_iload_n hx hb dX9_forwardOverlap_25 rfl (lv_at hl 0 rfl) ?_
      refine lv_if_ge (tgt := 31) hx hb dX9_forwardOverlap_26 (by decide) (fun c26 => ?_) (fun c26 => ?_)
      · exact absurd c26 (by decide)
      · refine lv_iload_n hx hb dX9_forwardOverlap_29 rfl (lv_at hl 0 rfl) ?_
        exact r_iret CF hr hlk hH hS dX9_forwardOverlap_30 ⟨by simp [aFwd, hin1, eiN, hin2, hin3], rfl⟩

set_option maxRecDepth 100000 in
set_option maxHeartbeats 4000000 in
theorem c_X9_stripSees (l : Launch) (G : Gm) (σ : Sg) (R C n : Nat) (sq : Nat → S4) (hA : MA σ R C n sq) (i z : Nat) (hi : i < n) (hz : z < R * C) : Met l yX9_stripSees wsX9_stripSees (rmO 4 103) (PP G [.ref (G.2.1 29), .int (nI i), .int (nI z)] σ) (QI G (RV (b2i (ssP (σ 30) (cmM σ) (sq i) C z)) σ)) 0 0 (fr G) := by
  refine r_start (cc := cX9_stripSees) (maxL := 4) (ret := (some .boolean)) (by decide) rfl (Nat.le_of_ble_eq_true rfl) ?_
  intro pz ez sz mz below meth cz ls CF hr hlk hK hH hS hl
  have CF : CallFix pz mz cz cX9_stripSees 4 sz (List.toArray [.ref (G.2.1 29), .int (nI i), .int (nI z)]) wsX9_stripSees RX9 := CF
  have hx := CF.1
  have hb := CF.2.1
  have hown := CF.2.2.2.1
  have hts := CF.2.2.2.2
  have hl : lv_has ls 4 [(0, .ref (G.2.1 29)), (1, .int (nI i)), (2, .int (nI z))] := hl
  obtain ⟨hR, hC, hR3, hR10, hC4, hC16, hM⟩ := hA
  have hn := hM.1
  have hn8 := hM.2.1
  have hph := phF_le (hM.2.2 i hi).2.2.2.2
  refine lv_iconst (v := 0) hx hb dX9_stripSees_0 (by decide) ?_
  refine lv_istore_n (lv' := [(3, .int (0 : Int32)), (0, .ref (G.2.1 29)), (1, .int (nI i)), (2, .int (nI z))]) hx hb dX9_stripSees_1 rfl hl (by decide) rfl (fun ls hl => ?_)
  have lp2 : ∀ (fu : Nat) (p : Nat) (H : Heap) (locs : List Loc) (ls : Array Slot), (phF (sq i) + 1 ≤ p + fu) → (p ≤ phF (sq i)) → (cnt (fun p => psF (σ 30) (cmM σ) (sq i) p (z / C) (z % C)) p = 0) → Hp G σ H → va_S (fr G) sz.heap H locs → lv_has ls 4 [(0, .ref (G.2.1 29)), (1, .int (nI i)), (2, .int (nI z)), (3, .int (nI p))] → W pz l ez (rmO 4 103) sz mz (List.toArray [.ref (G.2.1 29), .int (nI i), .int (nI z)]) below meth cz H locs 0 0 (MQ below (QI G (RV (b2i (ssP (σ 30) (cmM σ) (sq i) C z)) σ)) (List.toArray [.ref (G.2.1 29), .int (nI i), .int (nI z)]) sz 0 0 (fr G)) (F0 mz 2 ls []) := by
    intro fu
    induction fu with
    | zero => intros; omega
    | succ fu ih2 =>
      intro p H locs ls hf hp hc0 hH hS hl
      refine lv_iload_n hx hb dX9_stripSees_2 rfl (lv_at hl 3 rfl) ?_
      refine lv_aload_n hx hb dX9_stripSees_3 rfl (lv_at hl 0 rfl) ?_
      refine lv_iload_n hx hb dX9_stripSees_4 rfl (lv_at hl 1 rfl) ?_
      refine r_cR hS (r_runV (n := 1) (As := [.int (nI i)]) (rest := [.int (nI p)]) CF hK hH (c_X9_photosOf l G σ n sq hM i (by omega)) gX9_stripSees_X9_photosOf rfl rfl rfl rfl (by decide +kernel) ⟨⟨Nat.le_of_ble_eq_true rfl, Nat.le_of_ble_eq_true rfl⟩, Nat.le_of_ble_eq_true rfl, Nat.le_of_ble_eq_true rfl⟩ 29 rfl (Nat.le_of_ble_eq_true rfl) rfl rfl rfl hl.1 rfl (Nat.le_of_ble_eq_true rfl) dX9_stripSees_5) (fun H locs hH hS => ?_)
      refine lv_icmp_ge (tgt := 29) hx hb dX9_stripSees_8 (by decide) (fun c8 => ?_) (fun c8 => ?_)
      · have c8 : (phF (sq i)) ≤ p := (nI_leI (a := (phF (sq i))) (b := p) (by omega) (by omega)).mp c8
        refine lv_iconst (v := 0) hx hb dX9_stripSees_29 (by decide) ?_
        exact r_zret CF hr hlk hH hS rfl dX9_stripSees_30 ⟨by have e : p = phF (sq i) := (by omega); rw [e] at hc0; simp [ssP, ssF, b2i, hc0], rfl⟩
      · have c8 : p < (phF (sq i)) := Nat.lt_of_not_le (fun zq => c8 ((nI_leI (a := (phF (sq i))) (b := p) (by omega) (by omega)).mpr zq))
        refine lv_aload_n hx hb dX9_stripSees_11 rfl (lv_at hl 0 rfl) ?_
        refine lv_iload_n hx hb dX9_stripSees_12 rfl (lv_at hl 1 rfl) ?_
        refine lv_iload_n hx hb dX9_stripSees_13 rfl (lv_at hl 3 rfl) ?_
        refine lv_iload_n hx hb dX9_stripSees_14 rfl (lv_at hl 2 rfl) ?_
        refine r_cR hS (r_runV (n := 3) (As := [.int (nI i), .int (nI p), .int (nI z)]) (rest := []) CF hK hH (c_X9_photoSees l G σ R C n sq ⟨hR, hC, hR3, hR10, hC4, hC16, hM⟩ i p z (by omega) (by omega) (by omega)) gX9_stripSees_X9_photoSees rfl rfl rfl rfl (by decide +kernel) ⟨⟨Nat.le_of_ble_eq_true rfl, Nat.le_of_ble_eq_true rfl⟩, Nat.le_of_ble_eq_true rfl, Nat.le_of_ble_eq_true rfl⟩ 29 rfl (Nat.le_of_ble_eq_true rfl) rfl rfl rfl hl.1 rfl (Nat.le_of_ble_eq_true rfl) dX9_stripSees_15) (fun H locs hH hS => ?_)
        refine r_ifeqB (tgt := 23) hx hb dX9_stripSees_18 (by decide) (fun c18 => ?_) (fun c18 => ?_)
        · refine lv_iinc (v := nI (p + 1)) (lv' := [(3, .int (nI (p + 1))), (0, .ref (G.2.1 29)), (1, .int (nI i)), (2, .int (nI z))]) hx hb dX9_stripSees_23 hl (k := 3) rfl (nI_1 _) (by decide) rfl (fun ls hl => ?_)
          refine lv_goto (tgt := 2) hx hb dX9_stripSees_26 (by decide) ?_
          exact ih2 (p + 1) _ _ ls (by omega) (by omega) (by rw [cnt_f (p := fun p => psF (σ 30) (cmM σ) (sq i) p (z / C) (z % C)) c18, hc0]) hH hS (lv_sub hl [1, 2, 3, 0] rfl)
        · refine lv_iconst (v := 1) hx hb dX9_stripSees_21 (by decide) ?_
          exact r_zret CF hr hlk hH hS rfl dX9_stripSees_22 ⟨by have := cnt_pos (p := fun p => psF (σ 30) (cmM σ) (sq i) p (z / C) (z % C)) (i := p) c18 c8; simp [ssP, ssF, b2i, this], rfl⟩
  exact lp2 (phF (sq i) + 1) 0 _ _ ls (by omega) (by omega) rfl hH hS (lv_sub hl [1, 2, 3, 0] rfl)

set_option maxRecDepth 100000 in
set_option maxHeartbeats 4000000 in
theorem c_X9_sideOverlap (l : Launch) (G : Gm) (σ : Sg) (R C n : Nat) (sq : Nat → S4) (hA : MA σ R C n sq) (x y : Int32) : Met l yX9_sideOverlap wsX9_sideOverlap (rmO 5 126) (PP G [.ref (G.2.1 29), .int x, .int y] σ) (QI G (RV (aSide R C (σ 30) (cmM σ) n sq x y) σ)) 0 0 (fr G) := by
  refine r_start (cc := cX9_sideOverlap) (maxL := 9) (ret := (some .int)) (by decide) rfl (Nat.le_of_ble_eq_true rfl) ?_
  intro pz ez sz mz below meth cz ls CF hr hlk hK hH hS hl
  have CF : CallFix pz mz cz cX9_sideOverlap 9 sz (List.toArray [.ref (G.2.1 29), .int x, .int y]) wsX9_sideOverlap RX9 := CF
  have hx := CF.1
  have hb := CF.2.1
  have hown := CF.2.2.2.1
  have hts := CF.2.2.2.2
  have hl : lv_has ls 9 [(0, .ref (G.2.1 29)), (1, .int x), (2, .int y)] := hl
  have K1 := hts _ (List.mem_of_getElem? (i := 1) rfl)
  have K2 := hts _ (List.mem_of_getElem? (i := 2) rfl)
  have JX9 : ∀ w ∈ wsX90, w ∈ wsX9_sideOverlap := in_r _ [54, 55, 56, 57, 58, 59, 60, 61, 62, 63, 64, 65, 66, 67, 68, 69, 70, 71, 72, 73] (by decide +kernel)
  obtain ⟨hR, hC, hR3, hR10, hC4, hC16, hM⟩ := hA
  have hn := hM.1
  have hn8 := hM.2.1
  have hRC := RC_le hR10 hC16
  refine lv_aload_n hx hb dX9_sideOverlap_0 rfl (lv_at hl 0 rfl) ?_
  refine lv_iload_n hx hb dX9_sideOverlap_1 rfl (lv_at hl 1 rfl) ?_
  refine r_cR hS (r_runV (n := 1) (As := [.int x]) (rest := []) CF hK hH (c_X9_isStrip l G σ n hn hn8 x) gX9_sideOverlap_X9_isStrip rfl rfl rfl rfl (by decide +kernel) ⟨⟨Nat.le_of_ble_eq_true rfl, Nat.le_of_ble_eq_true rfl⟩, Nat.le_of_ble_eq_true rfl, Nat.le_of_ble_eq_true rfl⟩ 29 rfl (Nat.le_of_ble_eq_true rfl) rfl rfl rfl hl.1 rfl (Nat.le_of_ble_eq_true rfl) dX9_sideOverlap_2) (fun H locs hH hS => ?_)
  refine r_ifeqB (tgt := 16) hx hb dX9_sideOverlap_5 (by decide) (fun c5 => ?_) (fun c5 => ?_)
  · refine lv_bipush (v := (-2)) hx hb dX9_sideOverlap_16 (by decide) ?_
    exact r_iret CF hr hlk hH hS dX9_sideOverlap_18 ⟨by simp [aSide, c5], rfl⟩
  · obtain ⟨i, hi, ei⟩ := inB_of c5 (by omega)
    have eiN := N_of ei (by omega)
    refine lv_aload_n hx hb dX9_sideOverlap_8 rfl (lv_at hl 0 rfl) ?_
    refine lv_iload_n hx hb dX9_sideOverlap_9 rfl (lv_at hl 2 rfl) ?_
    refine r_cR hS (r_runV (n := 1) (As := [.int y]) (rest := []) CF hK hH (c_X9_isStrip l G σ n hn hn8 y) gX9_sideOverlap_X9_isStrip rfl rfl rfl rfl (by decide +kernel) ⟨⟨Nat.le_of_ble_eq_true rfl, Nat.le_of_ble_eq_true rfl⟩, Nat.le_of_ble_eq_true rfl, Nat.le_of_ble_eq_true rfl⟩ 29 rfl (Nat.le_of_ble_eq_true rfl) rfl rfl rfl hl.1 rfl (Nat.le_of_ble_eq_true rfl) dX9_sideOverlap_10) (fun H locs hH hS => ?_)
    refine r_ifneB (tgt := 19) hx hb dX9_sideOverlap_13 (by decide) (fun c13 => ?_) (fun c13 => ?_)
    · obtain ⟨j, hj, ej⟩ := inB_of c13 (by omega)
      have ejN := N_of ej (by omega)
      refine lv_iconst (v := 0) hx hb dX9_sideOverlap_19 (by decide) ?_
      refine lv_istore_n (lv' := [(3, .int (0 : Int32)), (0, .ref (G.2.1 29)), (1, .int x), (2, .int y)]) hx hb dX9_sideOverlap_20 rfl hl (by decide) rfl (fun ls hl => ?_)
      refine lv_iconst (v := 0) hx hb dX9_sideOverlap_21 (by decide) ?_
      refine lv_istore (lv' := [(4, .int (0 : Int32)), (3, .int (0 : Int32)), (0, .ref (G.2.1 29)), (1, .int x), (2, .int y)]) hx hb dX9_sideOverlap_22 hl (by decide) rfl (fun ls hl => ?_)
      refine lv_iconst (v := 0) hx hb dX9_sideOverlap_24 (by decide) ?_
      refine lv_istore (lv' := [(5, .int (0 : Int32)), (4, .int (0 : Int32)), (3, .int (0 : Int32)), (0, .ref (G.2.1 29)), (1, .int x), (2, .int y)]) hx hb dX9_sideOverlap_25 hl (by decide) rfl (fun ls hl => ?_)
      refine lv_iconst (v := 0) hx hb dX9_sideOverlap_27 (by decide) ?_
      refine lv_istore (lv' := [(6, .int (0 : Int32)), (5, .int (0 : Int32)), (4, .int (0 : Int32)), (3, .int (0 : Int32)), (0, .ref (G.2.1 29)), (1, .int x), (2, .int y)]) hx hb dX9_sideOverlap_28 hl (by decide) rfl (fun ls hl => ?_)
      have lp30 : ∀ (fu : Nat) (z : Nat) (x3 x4 x5 : Int32) (H : Heap) (locs : List Loc) (ls : Array Slot), (R * C + 1 ≤ z + fu) → (z ≤ R * C) → (x3 = nI (cnt (fun z => ssP (σ 30) (cmM σ) (sq i) C z && ssP (σ 30) (cmM σ) (sq j) C z) z)) → (x4 = nI (cnt (ssP (σ 30) (cmM σ) (sq i) C) z)) → (x5 = nI (cnt (ssP (σ 30) (cmM σ) (sq j) C) z)) → Hp G σ H → va_S (fr G) sz.heap H locs → lv_has ls 9 [(0, .ref (G.2.1 29)), (1, .int x), (2, .int y), (3, .int x3), (4, .int x4), (5, .int x5), (6, .int (nI z))] → W pz l ez (rmO 5 126) sz mz (List.toArray [.ref (G.2.1 29), .int x, .int y]) below meth cz H locs 0 0 (MQ below (QI G (RV (aSide R C (σ 30) (cmM σ) n sq x y) σ)) (List.toArray [.ref (G.2.1 29), .int x, .int y]) sz 0 0 (fr G)) (F0 mz 30 ls []) := by
        intro fu
        induction fu with
        | zero => intros; omega
        | succ fu ih30 =>
          intro z x3 x4 x5 H locs ls hf hzl h3 h4 h5 hH hS hl
          refine lv_iload hx hb dX9_sideOverlap_30 (lv_at hl 6 rfl) ?_
          refine lv_aload_n hx hb dX9_sideOverlap_32 rfl (lv_at hl 0 rfl) ?_
          refine r_get CF hK hH 29 (Nat.le_of_ble_eq_true rfl) rfl rfl JX9 0 (by decide) K1 rfl dX9_sideOverlap_33 ?_
          refine r_top (show (σ 29 0 : Int32) = nI R from hR) ?_
          refine lv_aload_n hx hb dX9_sideOverlap_36 rfl (lv_at hl 0 rfl) ?_
          refine r_get CF hK hH 29 (Nat.le_of_ble_eq_true rfl) rfl rfl JX9 1 (by decide) K2 rfl dX9_sideOverlap_37 ?_
          refine r_top (show (σ 29 1 : Int32) = nI C from hC) ?_
          refine lv_imul hx hb dX9_sideOverlap_40 ?_
          refine r_top (show (((nI R) * (nI C)) : Int32) = nI (R * C) from pk_mul R C) ?_
          refine lv_icmp_ge (tgt := 116) hx hb dX9_sideOverlap_41 (by decide) (fun c41 => ?_) (fun c41 => ?_)
          · have c41 : (R * C) ≤ z := (nI_leI (a := (R * C)) (b := z) (by omega) (by omega)).mp c41
            refine lv_iload_n hx hb dX9_sideOverlap_116 rfl (lv_at hl 3 rfl) ?_
            refine r_top (show (x3 : Int32) = nI (cnt (fun z => ssP (σ 30) (cmM σ) (sq i) C z && ssP (σ 30) (cmM σ) (sq j) C z) (R * C)) from (by have e : z = R * C := (by omega); rw [h3, e])) ?_
            refine lv_iload hx hb dX9_sideOverlap_117 (lv_at hl 4 rfl) ?_
            refine r_top (show (x4 : Int32) = nI (cnt (ssP (σ 30) (cmM σ) (sq i) C) (R * C)) from (by have e : z = R * C := (by omega); rw [h4, e])) ?_
            refine lv_iload hx hb dX9_sideOverlap_119 (lv_at hl 5 rfl) ?_
            refine r_top (show (x5 : Int32) = nI (cnt (ssP (σ 30) (cmM σ) (sq j) C) (R * C)) from (by have e : z = R * C := (by omega); rw [h5, e])) ?_
            have q20a := cnt_lt20 (ssP (σ 30) (cmM σ) (sq i) C) hR10 hC16
            have q20b := cnt_lt20 (ssP (σ 30) (cmM σ) (sq j) C) hR10 hC16
            refine r_cR hS (r_runS (n := 3) (As := [.int (nI (cnt (fun z => ssP (σ 30) (cmM σ) (sq i) C z && ssP (σ 30) (cmM σ) (sq j) C z) (R * C))), .int (nI (cnt (ssP (σ 30) (cmM σ) (sq i) C) (R * C))), .int (nI (cnt (ssP (σ 30) (cmM σ) (sq j) C) (R * C)))]) (rest := []) CF hK hH (c_X9_percent l G σ (cnt (fun z => ssP (σ 30) (cmM σ) (sq i) C z && ssP (σ 30) (cmM σ) (sq j) C z) (R * C)) (cnt (ssP (σ 30) (cmM σ) (sq i) C) (R * C)) (cnt (ssP (σ 30) (cmM σ) (sq j) C) (R * C)) (by omega) (by omega)) gX9_sideOverlap_X9_percent rfl rfl rfl (by decide +kernel) ⟨⟨Nat.le_of_ble_eq_true rfl, Nat.le_of_ble_eq_true rfl⟩, Nat.le_of_ble_eq_true rfl, Nat.le_of_ble_eq_true rfl⟩ rfl hl.1 rfl (Nat.le_of_ble_eq_true rfl) dX9_sideOverlap_121) (fun H locs hH hS => ?_)
            exact r_iret CF hr hlk hH hS dX9_sideOverlap_124 ⟨by simp [aSide, c5, c13, eiN, ejN], rfl⟩
          · have c41 : z < (R * C) := Nat.lt_of_not_le (fun zq => c41 ((nI_leI (a := (R * C)) (b := z) (by omega) (by omega)).mpr zq))
            refine lv_aload_n hx hb dX9_sideOverlap_44 rfl (lv_at hl 0 rfl) ?_
            refine lv_iload_n hx hb dX9_sideOverlap_45 rfl (lv_at hl 1 rfl) ?_
            refine r_top (show (x : Int32) = nI i from ei) ?_
            refine lv_iload hx hb dX9_sideOverlap_46 (lv_at hl 6 rfl) ?_
            refine r_cR hS (r_runV (n := 2) (As := [.int (nI i), .int (nI z)]) (rest := []) CF hK hH (c_X9_stripSees l G σ R C n sq ⟨hR, hC, hR3, hR10, hC4, hC16, hM⟩ i z (by omega) (by omega)) gX9_sideOverlap_X9_stripSees rfl rfl rfl rfl (by decide +kernel) ⟨⟨Nat.le_of_ble_eq_true rfl, Nat.le_of_ble_eq_true rfl⟩, Nat.le_of_ble_eq_true rfl, Nat.le_of_ble_eq_true rfl⟩ 29 rfl (Nat.le_of_ble_eq_true rfl) rfl rfl rfl hl.1 rfl (Nat.le_of_ble_eq_true rfl) dX9_sideOverlap_48) (fun H locs hH hS => ?_)
            refine lv_istore (lv' := [(7, .int (b2i (ssP (σ 30) (cmM σ) (sq i) C z))), (0, .ref (G.2.1 29)), (1, .int x), (2, .int y), (3, .int x3), (4, .int x4), (5, .int x5), (6, .int (nI z))]) hx hb dX9_sideOverlap_51 hl (by decide) rfl (fun ls hl => ?_)
            refine lv_aload_n hx hb dX9_sideOverlap_53 rfl (lv_at hl 1 rfl) ?_
            refine lv_iload_n hx hb dX9_sideOverlap_54 rfl (lv_at hl 3 rfl) ?_
            refine r_top (show (y : Int32) = nI j from ej) ?_
            refine lv_iload hx hb dX9_sideOverlap_55 (lv_at hl 7 rfl) ?_
            refine r_cR hS (r_runV (n := 2) (As := [.int (nI j), .int (nI z)]) (rest := []) CF hK hH (c_X9_stripSees l G σ R C n sq ⟨hR, hC, hR3, hR10, hC4, hC16, hM⟩ j z (by omega) (by omega)) gX9_sideOverlap_X9_stripSees rfl rfl rfl rfl (by decide +kernel) ⟨⟨Nat.le_of_ble_eq_true rfl, Nat.le_of_ble_eq_true rfl⟩, Nat.le_of_ble_eq_true rfl, Nat.le_of_ble_eq_true rfl⟩ 29 rfl (Nat.le_of_ble_eq_true rfl) rfl rfl rfl hl.1 rfl (Nat.le_of_ble_eq_true rfl) dX9_sideOverlap_57) (fun H locs hH hS => ?_)
            refine lv_istore (lv' := [(8, .int (b2i (ssP (σ 30) (cmM σ) (sq j) C z))), (7, .int (b2i (ssP (σ 30) (cmM σ) (sq i) C z))), (0, .ref (G.2.1 29)), (1, .int x), (2, .int y), (3, .int x3), (4, .int x4), (5, .int x5), (6, .int (nI z))]) hx hb dX9_sideOverlap_60 hl (by decide) rfl (fun ls hl => ?_)
            refine lv_iload_n hx hb dX9_sideOverlap_62 rfl (lv_at hl 5 rfl) ?_
            refine lv_iload hx hb dX9_sideOverlap_63 (lv_at hl 1 rfl) ?_
            refine r_ifeqB (tgt := 77) hx hb dX9_sideOverlap_65 (by decide) (fun c65 => ?_) (fun c65 => ?_)
            · refine lv_iconst (v := 0) hx hb dX9_sideOverlap_77 (by decide) ?_
              refine lv_iadd hx hb dX9_sideOverlap_78 ?_
              refine lv_istore_n (lv' := [(3, .int (x3 + (0 : Int32))), (8, .int (b2i (ssP (σ 30) (cmM σ) (sq j) C z))), (7, .int (b2i (ssP (σ 30) (cmM σ) (sq i) C z))), (0, .ref (G.2.1 29)), (1, .int x), (2, .int y), (4, .int x4), (5, .int x5), (6, .int (nI z))]) hx hb dX9_sideOverlap_79 rfl hl (by decide) rfl (fun ls hl => ?_)
              refine lv_iload hx hb dX9_sideOverlap_80 (lv_at hl 6 rfl) ?_
              refine lv_iload hx hb dX9_sideOverlap_82 (lv_at hl 2 rfl) ?_
              refine r_ifeqB (tgt := 91) hx hb dX9_sideOverlap_84 (by decide) (fun c84 => ?_) (fun c84 => ?_)
              · refine lv_iconst (v := 0) hx hb dX9_sideOverlap_91 (by decide) ?_
                refine lv_iadd hx hb dX9_sideOverlap_92 ?_
                refine lv_istore (lv' := [(4, .int (x4 + (0 : Int32))), (3, .int (x3 + (0 : Int32))), (8, .int (b2i (ssP (σ 30) (cmM σ) (sq j) C z))), (7, .int (b2i (ssP (σ 30) (cmM σ) (sq i) C z))), (0, .ref (G.2.1 29)), (1, .int x), (2, .int y), (5, .int x5), (6, .int (nI z))]) hx hb dX9_sideOverlap_93 hl (by decide) rfl (fun ls hl => ?_)
                refine lv_iload hx hb dX9_sideOverlap_95 (lv_at hl 7 rfl) ?_
                refine lv_iload hx hb dX9_sideOverlap_97 (lv_at hl 2 rfl) ?_
                refine r_ifeqB (tgt := 106) hx hb dX9_sideOverlap_99 (by decide) (fun c99 => ?_) (fun c99 => ?_)
                · refine lv_iconst (v := 0) hx hb dX9_sideOverlap_106 (by decide) ?_
                  refine lv_iadd hx hb dX9_sideOverlap_107 ?_
                  refine lv_istore (lv' := [(5, .int (x5 + (0 : Int32))), (4, .int (x4 + (0 : Int32))), (3, .int (x3 + (0 : Int32))), (8, .int (b2i (ssP (σ 30) (cmM σ) (sq j) C z))), (7, .int (b2i (ssP (σ 30) (cmM σ) (sq i) C z))), (0, .ref (G.2.1 29)), (1, .int x), (2, .int y), (6, .int (nI z))]) hx hb dX9_sideOverlap_108 hl (by decide) rfl (fun ls hl => ?_)
                  refine lv_iinc (v := nI (z + 1)) (lv' := [(6, .int (nI (z + 1))), (5, .int (x5 + (0 : Int32))), (4, .int (x4 + (0 : Int32))), (3, .int (x3 + (0 : Int32))), (8, .int (b2i (ssP (σ 30) (cmM σ) (sq j) C z))), (7, .int (b2i (ssP (σ 30) (cmM σ) (sq i) C z))), (0, .ref (G.2.1 29)), (1, .int x), (2, .int y)]) hx hb dX9_sideOverlap_110 hl (k := 8) rfl (nI_1 _) (by decide) rfl (fun ls hl => ?_)
                  refine lv_goto (tgt := 30) hx hb dX9_sideOverlap_113 (by decide) ?_
                  exact ih30 (z + 1) (x3 + (0 : Int32)) (x4 + (0 : Int32)) (x5 + (0 : Int32)) _ _ ls (by omega) (by omega) (by first | (exfalso; first | (rw [c65] at c84; cases c84; done) | (rw [c70] at c99; cases c99; done)) | exact cntT (p := fun z => ssP (σ 30) (cmM σ) (sq i) C z && ssP (σ 30) (cmM σ) (sq j) C z) (by simp only [c65, c84, c99, Bool.and_self]) h3 | (rw [cnt_f (p := fun z => ssP (σ 30) (cmM σ) (sq i) C z && ssP (σ 30) (cmM σ) (sq j) C z) (by simp only [c65, c84, c99, Bool.and_false, Bool.false_and]), h3]; simp)) (by first | (exfalso; first | (rw [c65] at c84; cases c84; done) | (rw [c70] at c99; cases c99; done)) | exact cntT (p := ssP (σ 30) (cmM σ) (sq i) C) (by simp only [c65, c84, c99]) h4 | (rw [cnt_f (p := ssP (σ 30) (cmM σ) (sq i) C) (by simp only [c65, c84, c99]), h4]; simp)) (by first | (exfalso; first | (rw [c65] at c84; cases c84; done) | (rw [c70] at c99; cases c99; done)) | exact cntT (p := ssP (σ 30) (cmM σ) (sq j) C) (by simp only [c65, c84, c99]) h5 | (rw [cnt_f (p := ssP (σ 30) (cmM σ) (sq j) C) (by simp only [c65, c84, c99]), h5]; simp)) hH hS (lv_sub hl [6, 7, 8, 3, 2, 1, 0] rfl)
                · refine lv_iconst (v := 1) hx hb dX9_sideOverlap_102 (by decide) ?_
                  refine lv_goto (tgt := 107) hx hb dX9_sideOverlap_103 (by decide) ?_
                  refine lv_iadd hx hb dX9_sideOverlap_107 ?_
                  refine lv_istore (lv' := [(5, .int (x5 + (1 : Int32))), (4, .int (x4 + (0 : Int32))), (3, .int (x3 + (0 : Int32))), (8, .int (b2i (ssP (σ 30) (cmM σ) (sq j) C z))), (7, .int (b2i (ssP (σ 30) (cmM σ) (sq i) C z))), (0, .ref (G.2.1 29)), (1, .int x), (2, .int y), (6, .int (nI z))]) hx hb dX9_sideOverlap_108 hl (by decide) rfl (fun ls hl => ?_)
                  refine lv_iinc (v := nI (z + 1)) (lv' := [(6, .int (nI (z + 1))), (5, .int (x5 + (1 : Int32))), (4, .int (x4 + (0 : Int32))), (3, .int (x3 + (0 : Int32))), (8, .int (b2i (ssP (σ 30) (cmM σ) (sq j) C z))), (7, .int (b2i (ssP (σ 30) (cmM σ) (sq i) C z))), (0, .ref (G.2.1 29)), (1, .int x), (2, .int y)]) hx hb dX9_sideOverlap_110 hl (k := 8) rfl (nI_1 _) (by decide) rfl (fun ls hl => ?_)
                  refine lv_goto (tgt := 30) hx hb dX9_sideOverlap_113 (by decide) ?_
                  exact ih30 (z + 1) (x3 + (0 : Int32)) (x4 + (0 : Int32)) (x5 + (1 : Int32)) _ _ ls (by omega) (by omega) (by first | (exfalso; first | (rw [c65] at c84; cases c84; done) | (rw [c70] at c99; cases c99; done)) | exact cntT (p := fun z => ssP (σ 30) (cmM σ) (sq i) C z && ssP (σ 30) (cmM σ) (sq j) C z) (by simp only [c65, c84, c99, Bool.and_self]) h3 | (rw [cnt_f (p := fun z => ssP (σ 30) (cmM σ) (sq i) C z && ssP (σ 30) (cmM σ) (sq j) C z) (by simp only [c65, c84, c99, Bool.and_false, Bool.false_and]), h3]; simp)) (by first | (exfalso; first | (rw [c65] at c84; cases c84; done) | (rw [c70] at c99; cases c99; done)) | exact cntT (p := ssP (σ 30) (cmM σ) (sq i) C) (by simp only [c65, c84, c99]) h4 | (rw [cnt_f (p := ssP (σ 30) (cmM σ) (sq i) C) (by simp only [c65, c84, c99]), h4]; simp)) (by first | (exfalso; first | (rw [c65] at c84; cases c84; done) | (rw [c70] at c99; cases c99; done)) | exact cntT (p := ssP (σ 30) (cmM σ) (sq j) C) (by simp only [c65, c84, c99]) h5 | (rw [cnt_f (p := ssP (σ 30) (cmM σ) (sq j) C) (by simp only [c65, c84, c99]), h5]; simp)) hH hS (lv_sub hl [6, 7, 8, 3, 2, 1, 0] rfl)
              · refine lv_iconst (v := 1) hx hb dX9_sideOverlap_87 (by decide) ?_
                refine lv_goto (tgt := 92) hx hb dX9_sideOverlap_88 (by decide) ?_
                refine lv_iadd hx hb dX9_sideOverlap_92 ?_
                refine lv_istore (lv' := [(4, .int (x4 + (1 : Int32))), (3, .int (x3 + (0 : Int32))), (8, .int (b2i (ssP (σ 30) (cmM σ) (sq j) C z))), (7, .int (b2i (ssP (σ 30) (cmM σ) (sq i) C z))), (0, .ref (G.2.1 29)), (1, .int x), (2, .int y), (5, .int x5), (6, .int (nI z))]) hx hb dX9_sideOverlap_93 hl (by decide) rfl (fun ls hl => ?_)
                refine lv_iload hx hb dX9_sideOverlap_95 (lv_at hl 7 rfl) ?_
                refine lv_iload hx hb dX9_sideOverlap_97 (lv_at hl 2 rfl) ?_
                refine r_ifeqB (tgt := 106) hx hb dX9_sideOverlap_99 (by decide) (fun c99 => ?_) (fun c99 => ?_)
                · refine lv_iconst (v := 0) hx hb dX9_sideOverlap_106 (by decide) ?_
                  refine lv_iadd hx hb dX9_sideOverlap_107 ?_
                  refine lv_istore (lv' := [(5, .int (x5 + (0 : Int32))), (4, .int (x4 + (1 : Int32))), (3, .int (x3 + (0 : Int32))), (8, .int (b2i (ssP (σ 30) (cmM σ) (sq j) C z))), (7, .int (b2i (ssP (σ 30) (cmM σ) (sq i) C z))), (0, .ref (G.2.1 29)), (1, .int x), (2, .int y), (6, .int (nI z))]) hx hb dX9_sideOverlap_108 hl (by decide) rfl (fun ls hl => ?_)
                  refine lv_iinc (v := nI (z + 1)) (lv' := [(6, .int (nI (z + 1))), (5, .int (x5 + (0 : Int32))), (4, .int (x4 + (1 : Int32))), (3, .int (x3 + (0 : Int32))), (8, .int (b2i (ssP (σ 30) (cmM σ) (sq j) C z))), (7, .int (b2i (ssP (σ 30) (cmM σ) (sq i) C z))), (0, .ref (G.2.1 29)), (1, .int x), (2, .int y)]) hx hb dX9_sideOverlap_110 hl (k := 8) rfl (nI_1 _) (by decide) rfl (fun ls hl => ?_)
                  refine lv_goto (tgt := 30) hx hb dX9_sideOverlap_113 (by decide) ?_
                  exact ih30 (z + 1) (x3 + (0 : Int32)) (x4 + (1 : Int32)) (x5 + (0 : Int32)) _ _ ls (by omega) (by omega) (by first | (exfalso; first | (rw [c65] at c84; cases c84; done) | (rw [c70] at c99; cases c99; done)) | exact cntT (p := fun z => ssP (σ 30) (cmM σ) (sq i) C z && ssP (σ 30) (cmM σ) (sq j) C z) (by simp only [c65, c84, c99, Bool.and_self]) h3 | (rw [cnt_f (p := fun z => ssP (σ 30) (cmM σ) (sq i) C z && ssP (σ 30) (cmM σ) (sq j) C z) (by simp only [c65, c84, c99, Bool.and_false, Bool.false_and]), h3]; simp)) (by first | (exfalso; first | (rw [c65] at c84; cases c84; done) | (rw [c70] at c99; cases c99; done)) | exact cntT (p := ssP (σ 30) (cmM σ) (sq i) C) (by simp only [c65, c84, c99]) h4 | (rw [cnt_f (p := ssP (σ 30) (cmM σ) (sq i) C) (by simp only [c65, c84, c99]), h4]; simp)) (by first | (exfalso; first | (rw [c65] at c84; cases c84; done) | (rw [c70] at c99; cases c99; done)) | exact cntT (p := ssP (σ 30) (cmM σ) (sq j) C) (by simp only [c65, c84, c99]) h5 | (rw [cnt_f (p := ssP (σ 30) (cmM σ) (sq j) C) (by simp only [c65, c84, c99]), h5]; simp)) hH hS (lv_sub hl [6, 7, 8, 3, 2, 1, 0] rfl)
                · refine lv_iconst (v := 1) hx hb dX9_sideOverlap_102 (by decide) ?_
                  refine lv_goto (tgt := 107) hx hb dX9_sideOverlap_103 (by decide) ?_
                  refine lv_iadd hx hb dX9_sideOverlap_107 ?_
                  refine lv_istore (lv' := [(5, .int (x5 + (1 : Int32))), (4, .int (x4 + (1 : Int32))), (3, .int (x3 + (0 : Int32))), (8, .int (b2i (ssP (σ 30) (cmM σ) (sq j) C z))), (7, .int (b2i (ssP (σ 30) (cmM σ) (sq i) C z))), (0, .ref (G.2.1 29)), (1, .int x), (2, .int y), (6, .int (nI z))]) hx hb dX9_sideOverlap_108 hl (by decide) rfl (fun ls hl => ?_)
                  refine lv_iinc (v := nI (z + 1)) (lv' := [(6, .int (nI (z + 1))), (5, .int (x5 + (1 : Int32))), (4, .int (x4 + (1 : Int32))), (3, .int (x3 + (0 : Int32))), (8, .int (b2i (ssP (σ 30) (cmM σ) (sq j) C z))), (7, .int (b2i (ssP (σ 30) (cmM σ) (sq i) C z))), (0, .ref (G.2.1 29)), (1, .int x), (2, .int y)]) hx hb dX9_sideOverlap_110 hl (k := 8) rfl (nI_1 _) (by decide) rfl (fun ls hl => ?_)
                  refine lv_goto (tgt := 30) hx hb dX9_sideOverlap_113 (by decide) ?_
                  exact ih30 (z + 1) (x3 + (0 : Int32)) (x4 + (1 : Int32)) (x5 + (1 : Int32)) _ _ ls (by omega) (by omega) (by first | (exfalso; first | (rw [c65] at c84; cases c84; done) | (rw [c70] at c99; cases c99; done)) | exact cntT (p := fun z => ssP (σ 30) (cmM σ) (sq i) C z && ssP (σ 30) (cmM σ) (sq j) C z) (by simp only [c65, c84, c99, Bool.and_self]) h3 | (rw [cnt_f (p := fun z => ssP (σ 30) (cmM σ) (sq i) C z && ssP (σ 30) (cmM σ) (sq j) C z) (by simp only [c65, c84, c99, Bool.and_false, Bool.false_and]), h3]; simp)) (by first | (exfalso; first | (rw [c65] at c84; cases c84; done) | (rw [c70] at c99; cases c99; done)) | exact cntT (p := ssP (σ 30) (cmM σ) (sq i) C) (by simp only [c65, c84, c99]) h4 | (rw [cnt_f (p := ssP (σ 30) (cmM σ) (sq i) C) (by simp only [c65, c84, c99]), h4]; simp)) (by first | (exfalso; first | (rw [c65] at c84; cases c84; done) | (rw [c70] at c99; cases c99; done)) | exact cntT (p := ssP (σ 30) (cmM σ) (sq j) C) (by simp only [c65, c84, c99]) h5 | (rw [cnt_f (p := ssP (σ 30) (cmM σ) (sq j) C) (by simp only [c65, c84, c99]), h5]; simp)) hH hS (lv_sub hl [6, 7, 8, 3, 2, 1, 0] rfl)
            · refine lv_iload hx hb dX9_sideOverlap_68 (lv_at hl 0 rfl) ?_
              refine r_ifeqB (tgt := 77) hx hb dX9_sideOverlap_70 (by decide) (fun c70 => ?_) (fun c70 => ?_)
              · refine lv_iconst (v := 0) hx hb dX9_sideOverlap_77 (by decide) ?_
                refine lv_iadd hx hb dX9_sideOverlap_78 ?_
                refine lv_istore_n (lv' := [(3, .int (x3 + (0 : Int32))), (8, .int (b2i (ssP (σ 30) (cmM σ) (sq j) C z))), (7, .int (b2i (ssP (σ 30) (cmM σ) (sq i) C z))), (0, .ref (G.2.1 29)), (1, .int x), (2, .int y), (4, .int x4), (5, .int x5), (6, .int (nI z))]) hx hb dX9_sideOverlap_79 rfl hl (by decide) rfl (fun ls hl => ?_)
                refine lv_iload hx hb dX9_sideOverlap_80 (lv_at hl 6 rfl) ?_
                refine lv_iload hx hb dX9_sideOverlap_82 (lv_at hl 2 rfl) ?_
                refine r_ifeqB (tgt := 91) hx hb dX9_sideOverlap_84 (by decide) (fun c84 => ?_) (fun c84 => ?_)
                · refine lv_iconst (v := 0) hx hb dX9_sideOverlap_91 (by decide) ?_
                  refine lv_iadd hx hb dX9_sideOverlap_92 ?_
                  refine lv_istore (lv' := [(4, .int (x4 + (0 : Int32))), (3, .int (x3 + (0 : Int32))), (8, .int (b2i (ssP (σ 30) (cmM σ) (sq j) C z))), (7, .int (b2i (ssP (σ 30) (cmM σ) (sq i) C z))), (0, .ref (G.2.1 29)), (1, .int x), (2, .int y), (5, .int x5), (6, .int (nI z))]) hx hb dX9_sideOverlap_93 hl (by decide) rfl (fun ls hl => ?_)
                  refine lv_iload hx hb dX9_sideOverlap_95 (lv_at hl 7 rfl) ?_
                  refine lv_iload hx hb dX9_sideOverlap_97 (lv_at hl 2 rfl) ?_
                  refine r_ifeqB (tgt := 106) hx hb dX9_sideOverlap_99 (by decide) (fun c99 => ?_) (fun c99 => ?_)
                  · refine lv_iconst (v := 0) hx hb dX9_sideOverlap_106 (by decide) ?_
                    refine lv_iadd hx hb dX9_sideOverlap_107 ?_
                    refine lv_istore (lv' := [(5, .int (x5 + (0 : Int32))), (4, .int (x4 + (0 : Int32))), (3, .int (x3 + (0 : Int32))), (8, .int (b2i (ssP (σ 30) (cmM σ) (sq j) C z))), (7, .int (b2i (ssP (σ 30) (cmM σ) (sq i) C z))), (0, .ref (G.2.1 29)), (1, .int x), (2, .int y), (6, .int (nI z))]) hx hb dX9_sideOverlap_108 hl (by decide) rfl (fun ls hl => ?_)
                    refine lv_iinc (v := nI (z + 1)) (lv' := [(6, .int (nI (z + 1))), (5, .int (x5 + (0 : Int32))), (4, .int (x4 + (0 : Int32))), (3, .int (x3 + (0 : Int32))), (8, .int (b2i (ssP (σ 30) (cmM σ) (sq j) C z))), (7, .int (b2i (ssP (σ 30) (cmM σ) (sq i) C z))), (0, .ref (G.2.1 29)), (1, .int x), (2, .int y)]) hx hb dX9_sideOverlap_110 hl (k := 8) rfl (nI_1 _) (by decide) rfl (fun ls hl => ?_)
                    refine lv_goto (tgt := 30) hx hb dX9_sideOverlap_113 (by decide) ?_
                    exact ih30 (z + 1) (x3 + (0 : Int32)) (x4 + (0 : Int32)) (x5 + (0 : Int32)) _ _ ls (by omega) (by omega) (by first | (exfalso; first | (rw [c65] at c84; cases c84; done) | (rw [c70] at c99; cases c99; done)) | exact cntT (p := fun z => ssP (σ 30) (cmM σ) (sq i) C z && ssP (σ 30) (cmM σ) (sq j) C z) (by simp only [c65, c70, c84, c99, Bool.and_self]) h3 | (rw [cnt_f (p := fun z => ssP (σ 30) (cmM σ) (sq i) C z && ssP (σ 30) (cmM σ) (sq j) C z) (by simp only [c65, c70, c84, c99, Bool.and_false, Bool.false_and]), h3]; simp)) (by first | (exfalso; first | (rw [c65] at c84; cases c84; done) | (rw [c70] at c99; cases c99; done)) | exact cntT (p := ssP (σ 30) (cmM σ) (sq i) C) (by simp only [c65, c70, c84, c99]) h4 | (rw [cnt_f (p := ssP (σ 30) (cmM σ) (sq i) C) (by simp only [c65, c70, c84, c99]), h4]; simp)) (by first | (exfalso; first | (rw [c65] at c84; cases c84; done) | (rw [c70] at c99; cases c99; done)) | exact cntT (p := ssP (σ 30) (cmM σ) (sq j) C) (by simp only [c65, c70, c84, c99]) h5 | (rw [cnt_f (p := ssP (σ 30) (cmM σ) (sq j) C) (by simp only [c65, c70, c84, c99]), h5]; simp)) hH hS (lv_sub hl [6, 7, 8, 3, 2, 1, 0] rfl)
                  · refine lv_iconst (v := 1) hx hb dX9_sideOverlap_102 (by decide) ?_
                    refine lv_goto (tgt := 107) hx hb dX9_sideOverlap_103 (by decide) ?_
                    refine lv_iadd hx hb dX9_sideOverlap_107 ?_
                    refine lv_istore (lv' := [(5, .int (x5 + (1 : Int32))), (4, .int (x4 + (0 : Int32))), (3, .int (x3 + (0 : Int32))), (8, .int (b2i (ssP (σ 30) (cmM σ) (sq j) C z))), (7, .int (b2i (ssP (σ 30) (cmM σ) (sq i) C z))), (0, .ref (G.2.1 29)), (1, .int x), (2, .int y), (6, .int (nI z))]) hx hb dX9_sideOverlap_108 hl (by decide) rfl (fun ls hl => ?_)
                    refine lv_iinc (v := nI (z + 1)) (lv' := [(6, .int (nI (z + 1))), (5, .int (x5 + (1 : Int32))), (4, .int (x4 + (0 : Int32))), (3, .int (x3 + (0 : Int32))), (8, .int (b2i (ssP (σ 30) (cmM σ) (sq j) C z))), (7, .int (b2i (ssP (σ 30) (cmM σ) (sq i) C z))), (0, .ref (G.2.1 29)), (1, .int x), (2, .int y)]) hx hb dX9_sideOverlap_110 hl (k := 8) rfl (nI_1 _) (by decide) rfl (fun ls hl => ?_)
                    refine lv_goto (tgt := 30) hx hb dX9_sideOverlap_113 (by decide) ?_
                    exact ih30 (z + 1) (x3 + (0 : Int32)) (x4 + (0 : Int32)) (x5 + (1 : Int32)) _ _ ls (by omega) (by omega) (by first | (exfalso; first | (rw [c65] at c84; cases c84; done) | (rw [c70] at c99; cases c99; done)) | exact cntT (p := fun z => ssP (σ 30) (cmM σ) (sq i) C z && ssP (σ 30) (cmM σ) (sq j) C z) (by simp only [c65, c70, c84, c99, Bool.and_self]) h3 | (rw [cnt_f (p := fun z => ssP (σ 30) (cmM σ) (sq i) C z && ssP (σ 30) (cmM σ) (sq j) C z) (by simp only [c65, c70, c84, c99, Bool.and_false, Bool.false_and]), h3]; simp)) (by first | (exfalso; first | (rw [c65] at c84; cases c84; done) | (rw [c70] at c99; cases c99; done)) | exact cntT (p := ssP (σ 30) (cmM σ) (sq i) C) (by simp only [c65, c70, c84, c99]) h4 | (rw [cnt_f (p := ssP (σ 30) (cmM σ) (sq i) C) (by simp only [c65, c70, c84, c99]), h4]; simp)) (by first | (exfalso; first | (rw [c65] at c84; cases c84; done) | (rw [c70] at c99; cases c99; done)) | exact cntT (p := ssP (σ 30) (cmM σ) (sq j) C) (by simp only [c65, c70, c84, c99]) h5 | (rw [cnt_f (p := ssP (σ 30) (cmM σ) (sq j) C) (by simp only [c65, c70, c84, c99]), h5]; simp)) hH hS (lv_sub hl [6, 7, 8, 3, 2, 1, 0] rfl)
                · refine lv_iconst (v := 1) hx hb dX9_sideOverlap_87 (by decide) ?_
                  refine lv_goto (tgt := 92) hx hb dX9_sideOverlap_88 (by decide) ?_
                  refine lv_iadd hx hb dX9_sideOverlap_92 ?_
                  refine lv_istore (lv' := [(4, .int (x4 + (1 : Int32))), (3, .int (x3 + (0 : Int32))), (8, .int (b2i (ssP (σ 30) (cmM σ) (sq j) C z))), (7, .int (b2i (ssP (σ 30) (cmM σ) (sq i) C z))), (0, .ref (G.2.1 29)), (1, .int x), (2, .int y), (5, .int x5), (6, .int (nI z))]) hx hb dX9_sideOverlap_93 hl (by decide) rfl (fun ls hl => ?_)
                  refine lv_iload hx hb dX9_sideOverlap_95 (lv_at hl 7 rfl) ?_
                  refine lv_iload hx hb dX9_sideOverlap_97 (lv_at hl 2 rfl) ?_
                  refine r_ifeqB (tgt := 106) hx hb dX9_sideOverlap_99 (by decide) (fun c99 => ?_) (fun c99 => ?_)
                  · refine lv_iconst (v := 0) hx hb dX9_sideOverlap_106 (by decide) ?_
                    refine lv_iadd hx hb dX9_sideOverlap_107 ?_
                    refine lv_istore (lv' := [(5, .int (x5 + (0 : Int32))), (4, .int (x4 + (1 : Int32))), (3, .int (x3 + (0 : Int32))), (8, .int (b2i (ssP (σ 30) (cmM σ) (sq j) C z))), (7, .int (b2i (ssP (σ 30) (cmM σ) (sq i) C z))), (0, .ref (G.2.1 29)), (1, .int x), (2, .int y), (6, .int (nI z))]) hx hb dX9_sideOverlap_108 hl (by decide) rfl (fun ls hl => ?_)
                    refine lv_iinc (v := nI (z + 1)) (lv' := [(6, .int (nI (z + 1))), (5, .int (x5 + (0 : Int32))), (4, .int (x4 + (1 : Int32))), (3, .int (x3 + (0 : Int32))), (8, .int (b2i (ssP (σ 30) (cmM σ) (sq j) C z))), (7, .int (b2i (ssP (σ 30) (cmM σ) (sq i) C z))), (0, .ref (G.2.1 29)), (1, .int x), (2, .int y)]) hx hb dX9_sideOverlap_110 hl (k := 8) rfl (nI_1 _) (by decide) rfl (fun ls hl => ?_)
                    refine lv_goto (tgt := 30) hx hb dX9_sideOverlap_113 (by decide) ?_
                    exact ih30 (z + 1) (x3 + (0 : Int32)) (x4 + (1 : Int32)) (x5 + (0 : Int32)) _ _ ls (by omega) (by omega) (by first | (exfalso; first | (rw [c65] at c84; cases c84; done) | (rw [c70] at c99; cases c99; done)) | exact cntT (p := fun z => ssP (σ 30) (cmM σ) (sq i) C z && ssP (σ 30) (cmM σ) (sq j) C z) (by simp only [c65, c70, c84, c99, Bool.and_self]) h3 | (rw [cnt_f (p := fun z => ssP (σ 30) (cmM σ) (sq i) C z && ssP (σ 30) (cmM σ) (sq j) C z) (by simp only [c65, c70, c84, c99, Bool.and_false, Bool.false_and]), h3]; simp)) (by first | (exfalso; first | (rw [c65] at c84; cases c84; done) | (rw [c70] at c99; cases c99; done)) | exact cntT (p := ssP (σ 30) (cmM σ) (sq i) C) (by simp only [c65, c70, c84, c99]) h4 | (rw [cnt_f (p := ssP (σ 30) (cmM σ) (sq i) C) (by simp only [c65, c70, c84, c99]), h4]; simp)) (by first | (exfalso; first | (rw [c65] at c84; cases c84; done) | (rw [c70] at c99; cases c99; done)) | exact cntT (p := ssP (σ 30) (cmM σ) (sq j) C) (by simp only [c65, c70, c84, c99]) h5 | (rw [cnt_f (p := ssP (σ 30) (cmM σ) (sq j) C) (by simp only [c65, c70, c84, c99]), h5]; simp)) hH hS (lv_sub hl [6, 7, 8, 3, 2, 1, 0] rfl)
                  · refine lv_iconst (v := 1) hx hb dX9_sideOverlap_102 (by decide) ?_
                    refine lv_goto (tgt := 107) hx hb dX9_sideOverlap_103 (by decide) ?_
                    refine lv_iadd hx hb dX9_sideOverlap_107 ?_
                    refine lv_istore (lv' := [(5, .int (x5 + (1 : Int32))), (4, .int (x4 + (1 : Int32))), (3, .int (x3 + (0 : Int32))), (8, .int (b2i (ssP (σ 30) (cmM σ) (sq j) C z))), (7, .int (b2i (ssP (σ 30) (cmM σ) (sq i) C z))), (0, .ref (G.2.1 29)), (1, .int x), (2, .int y), (6, .int (nI z))]) hx hb dX9_sideOverlap_108 hl (by decide) rfl (fun ls hl => ?_)
                    refine lv_iinc (v := nI (z + 1)) (lv' := [(6, .int (nI (z + 1))), (5, .int (x5 + (1 : Int32))), (4, .int (x4 + (1 : Int32))), (3, .int (x3 + (0 : Int32))), (8, .int (b2i (ssP (σ 30) (cmM σ) (sq j) C z))), (7, .int (b2i (ssP (σ 30) (cmM σ) (sq i) C z))), (0, .ref (G.2.1 29)), (1, .int x), (2, .int y)]) hx hb dX9_sideOverlap_110 hl (k := 8) rfl (nI_1 _) (by decide) rfl (fun ls hl => ?_)
                    refine lv_goto (tgt := 30) hx hb dX9_sideOverlap_113 (by decide) ?_
                    exact ih30 (z + 1) (x3 + (0 : Int32)) (x4 + (1 : Int32)) (x5 + (1 : Int32)) _ _ ls (by omega) (by omega) (by first | (exfalso; first | (rw [c65] at c84; cases c84; done) | (rw [c70] at c99; cases c99; done)) | exact cntT (p := fun z => ssP (σ 30) (cmM σ) (sq i) C z && ssP (σ 30) (cmM σ) (sq j) C z) (by simp only [c65, c70, c84, c99, Bool.and_self]) h3 | (rw [cnt_f (p := fun z => ssP (σ 30) (cmM σ) (sq i) C z && ssP (σ 30) (cmM σ) (sq j) C z) (by simp only [c65, c70, c84, c99, Bool.and_false, Bool.false_and]), h3]; simp)) (by first | (exfalso; first | (rw [c65] at c84; cases c84; done) | (rw [c70] at c99; cases c99; done)) | exact cntT (p := ssP (σ 30) (cmM σ) (sq i) C) (by simp only [c65, c70, c84, c99]) h4 | (rw [cnt_f (p := ssP (σ 30) (cmM σ) (sq i) C) (by simp only [c65, c70, c84, c99]), h4]; simp)) (by first | (exfalso; first | (rw [c65] at c84; cases c84; done) | (rw [c70] at c99; cases c99; done)) | exact cntT (p := ssP (σ 30) (cmM σ) (sq j) C) (by simp only [c65, c70, c84, c99]) h5 | (rw [cnt_f (p := ssP (σ 30) (cmM σ) (sq j) C) (by simp only [c65, c70, c84, c99]), h5]; simp)) hH hS (lv_sub hl [6, 7, 8, 3, 2, 1, 0] rfl)
              · refine lv_iconst (v := 1) hx hb dX9_sideOverlap_73 (by decide) ?_
                refine lv_goto (tgt := 78) hx hb dX9_sideOverlap_74 (by decide) ?_
                refine lv_iadd hx hb dX9_sideOverlap_78 ?_
                refine lv_istore_n (lv' := [(3, .int (x3 + (1 : Int32))), (8, .int (b2i (ssP (σ 30) (cmM σ) (sq j) C z))), (7, .int (b2i (ssP (σ 30) (cmM σ) (sq i) C z))), (0, .ref (G.2.1 29)), (1, .int x), (2, .int y), (4, .int x4), (5, .int x5), (6, .int (nI z))]) hx hb dX9_sideOverlap_79 rfl hl (by decide) rfl (fun ls hl => ?_)
                refine lv_iload hx hb dX9_sideOverlap_80 (lv_at hl 6 rfl) ?_
                refine lv_iload hx hb dX9_sideOverlap_82 (lv_at hl 2 rfl) ?_
                refine r_ifeqB (tgt := 91) hx hb dX9_sideOverlap_84 (by decide) (fun c84 => ?_) (fun c84 => ?_)
                · refine lv_iconst (v := 0) hx hb dX9_sideOverlap_91 (by decide) ?_
                  refine lv_iadd hx hb dX9_sideOverlap_92 ?_
                  refine lv_istore (lv' := [(4, .int (x4 + (0 : Int32))), (3, .int (x3 + (1 : Int32))), (8, .int (b2i (ssP (σ 30) (cmM σ) (sq j) C z))), (7, .int (b2i (ssP (σ 30) (cmM σ) (sq i) C z))), (0, .ref (G.2.1 29)), (1, .int x), (2, .int y), (5, .int x5), (6, .int (nI z))]) hx hb dX9_sideOverlap_93 hl (by decide) rfl (fun ls hl => ?_)
                  refine lv_iload hx hb dX9_sideOverlap_95 (lv_at hl 7 rfl) ?_
                  refine lv_iload hx hb dX9_sideOverlap_97 (lv_at hl 2 rfl) ?_
                  refine r_ifeqB (tgt := 106) hx hb dX9_sideOverlap_99 (by decide) (fun c99 => ?_) (fun c99 => ?_)
                  · refine lv_iconst (v := 0) hx hb dX9_sideOverlap_106 (by decide) ?_
                    refine lv_iadd hx hb dX9_sideOverlap_107 ?_
                    refine lv_istore (lv' := [(5, .int (x5 + (0 : Int32))), (4, .int (x4 + (0 : Int32))), (3, .int (x3 + (1 : Int32))), (8, .int (b2i (ssP (σ 30) (cmM σ) (sq j) C z))), (7, .int (b2i (ssP (σ 30) (cmM σ) (sq i) C z))), (0, .ref (G.2.1 29)), (1, .int x), (2, .int y), (6, .int (nI z))]) hx hb dX9_sideOverlap_108 hl (by decide) rfl (fun ls hl => ?_)
                    refine lv_iinc (v := nI (z + 1)) (lv' := [(6, .int (nI (z + 1))), (5, .int (x5 + (0 : Int32))), (4, .int (x4 + (0 : Int32))), (3, .int (x3 + (1 : Int32))), (8, .int (b2i (ssP (σ 30) (cmM σ) (sq j) C z))), (7, .int (b2i (ssP (σ 30) (cmM σ) (sq i) C z))), (0, .ref (G.2.1 29)), (1, .int x), (2, .int y)]) hx hb dX9_sideOverlap_110 hl (k := 8) rfl (nI_1 _) (by decide) rfl (fun ls hl => ?_)
                    refine lv_goto (tgt := 30) hx hb dX9_sideOverlap_113 (by decide) ?_
                    exact ih30 (z + 1) (x3 + (1 : Int32)) (x4 + (0 : Int32)) (x5 + (0 : Int32)) _ _ ls (by omega) (by omega) (by first | (exfalso; first | (rw [c65] at c84; cases c84; done) | (rw [c70] at c99; cases c99; done)) | exact cntT (p := fun z => ssP (σ 30) (cmM σ) (sq i) C z && ssP (σ 30) (cmM σ) (sq j) C z) (by simp only [c65, c70, c84, c99, Bool.and_self]) h3 | (rw [cnt_f (p := fun z => ssP (σ 30) (cmM σ) (sq i) C z && ssP (σ 30) (cmM σ) (sq j) C z) (by simp only [c65, c70, c84, c99, Bool.and_false, Bool.false_and]), h3]; simp)) (by first | (exfalso; first | (rw [c65] at c84; cases c84; done) | (rw [c70] at c99; cases c99; done)) | exact cntT (p := ssP (σ 30) (cmM σ) (sq i) C) (by simp only [c65, c70, c84, c99]) h4 | (rw [cnt_f (p := ssP (σ 30) (cmM σ) (sq i) C) (by simp only [c65, c70, c84, c99]), h4]; simp)) (by first | (exfalso; first | (rw [c65] at c84; cases c84; done) | (rw [c70] at c99; cases c99; done)) | exact cntT (p := ssP (σ 30) (cmM σ) (sq j) C) (by simp only [c65, c70, c84, c99]) h5 | (rw [cnt_f (p := ssP (σ 30) (cmM σ) (sq j) C) (by simp only [c65, c70, c84, c99]), h5]; simp)) hH hS (lv_sub hl [6, 7, 8, 3, 2, 1, 0] rfl)
                  · refine lv_iconst (v := 1) hx hb dX9_sideOverlap_102 (by decide) ?_
                    refine lv_goto (tgt := 107) hx hb dX9_sideOverlap_103 (by decide) ?_
                    refine lv_iadd hx hb dX9_sideOverlap_107 ?_
                    refine lv_istore (lv' := [(5, .int (x5 + (1 : Int32))), (4, .int (x4 + (0 : Int32))), (3, .int (x3 + (1 : Int32))), (8, .int (b2i (ssP (σ 30) (cmM σ) (sq j) C z))), (7, .int (b2i (ssP (σ 30) (cmM σ) (sq i) C z))), (0, .ref (G.2.1 29)), (1, .int x), (2, .int y), (6, .int (nI z))]) hx hb dX9_sideOverlap_108 hl (by decide) rfl (fun ls hl => ?_)
                    refine lv_iinc (v := nI (z + 1)) (lv' := [(6, .int (nI (z + 1))), (5, .int (x5 + (1 : Int32))), (4, .int (x4 + (0 : Int32))), (3, .int (x3 + (1 : Int32))), (8, .int (b2i (ssP (σ 30) (cmM σ) (sq j) C z))), (7, .int (b2i (ssP (σ 30) (cmM σ) (sq i) C z))), (0, .ref (G.2.1 29)), (1, .int x), (2, .int y)]) hx hb dX9_sideOverlap_110 hl (k := 8) rfl (nI_1 _) (by decide) rfl (fun ls hl => ?_)
                    refine lv_goto (tgt := 30) hx hb dX9_sideOverlap_113 (by decide) ?_
                    exact ih30 (z + 1) (x3 + (1 : Int32)) (x4 + (0 : Int32)) (x5 + (1 : Int32)) _ _ ls (by omega) (by omega) (by first | (exfalso; first | (rw [c65] at c84; cases c84; done) | (rw [c70] at c99; cases c99; done)) | exact cntT (p := fun z => ssP (σ 30) (cmM σ) (sq i) C z && ssP (σ 30) (cmM σ) (sq j) C z) (by simp only [c65, c70, c84, c99, Bool.and_self]) h3 | (rw [cnt_f (p := fun z => ssP (σ 30) (cmM σ) (sq i) C z && ssP (σ 30) (cmM σ) (sq j) C z) (by simp only [c65, c70, c84, c99, Bool.and_false, Bool.false_and]), h3]; simp)) (by first | (exfalso; first | (rw [c65] at c84; cases c84; done) | (rw [c70] at c99; cases c99; done)) | exact cntT (p := ssP (σ 30) (cmM σ) (sq i) C) (by simp only [c65, c70, c84, c99]) h4 | (rw [cnt_f (p := ssP (σ 30) (cmM σ) (sq i) C) (by simp only [c65, c70, c84, c99]), h4]; simp)) (by first | (exfalso; first | (rw [c65] at c84; cases c84; done) | (rw [c70] at c99; cases c99; done)) | exact cntT (p := ssP (σ 30) (cmM σ) (sq j) C) (by simp only [c65, c70, c84, c99]) h5 | (rw [cnt_f (p := ssP (σ 30) (cmM σ) (sq j) C) (by simp only [c65, c70, c84, c99]), h5]; simp)) hH hS (lv_sub hl [6, 7, 8, 3, 2, 1, 0] rfl)
                · refine lv_iconst (v := 1) hx hb dX9_sideOverlap_87 (by decide) ?_
                  refine lv_goto (tgt := 92) hx hb dX9_sideOverlap_88 (by decide) ?_
                  refine lv_iadd hx hb dX9_sideOverlap_92 ?_
                  refine lv_istore (lv' := [(4, .int (x4 + (1 : Int32))), (3, .int (x3 + (1 : Int32))), (8, .int (b2i (ssP (σ 30) (cmM σ) (sq j) C z))), (7, .int (b2i (ssP (σ 30) (cmM σ) (sq i) C z))), (0, .ref (G.2.1 29)), (1, .int x), (2, .int y), (5, .int x5), (6, .int (nI z))]) hx hb dX9_sideOverlap_93 hl (by decide) rfl (fun ls hl => ?_)
                  refine lv_iload hx hb dX9_sideOverlap_95 (lv_at hl 7 rfl) ?_
                  refine lv_iload hx hb dX9_sideOverlap_97 (lv_at hl 2 rfl) ?_
                  refine r_ifeqB (tgt := 106) hx hb dX9_sideOverlap_99 (by decide) (fun c99 => ?_) (fun c99 => ?_)
                  · refine lv_iconst (v := 0) hx hb dX9_sideOverlap_106 (by decide) ?_
                    refine lv_iadd hx hb dX9_sideOverlap_107 ?_
                    refine lv_istore (lv' := [(5, .int (x5 + (0 : Int32))), (4, .int (x4 + (1 : Int32))), (3, .int (x3 + (1 : Int32))), (8, .int (b2i (ssP (σ 30) (cmM σ) (sq j) C z))), (7, .int (b2i (ssP (σ 30) (cmM σ) (sq i) C z))), (0, .ref (G.2.1 29)), (1, .int x), (2, .int y), (6, .int (nI z))]) hx hb dX9_sideOverlap_108 hl (by decide) rfl (fun ls hl => ?_)
                    refine lv_iinc (v := nI (z + 1)) (lv' := [(6, .int (nI (z + 1))), (5, .int (x5 + (0 : Int32))), (4, .int (x4 + (1 : Int32))), (3, .int (x3 + (1 : Int32))), (8, .int (b2i (ssP (σ 30) (cmM σ) (sq j) C z))), (7, .int (b2i (ssP (σ 30) (cmM σ) (sq i) C z))), (0, .ref (G.2.1 29)), (1, .int x), (2, .int y)]) hx hb dX9_sideOverlap_110 hl (k := 8) rfl (nI_1 _) (by decide) rfl (fun ls hl => ?_)
                    refine lv_goto (tgt := 30) hx hb dX9_sideOverlap_113 (by decide) ?_
                    exact ih30 (z + 1) (x3 + (1 : Int32)) (x4 + (1 : Int32)) (x5 + (0 : Int32)) _ _ ls (by omega) (by omega) (by first | (exfalso; first | (rw [c65] at c84; cases c84; done) | (rw [c70] at c99; cases c99; done)) | exact cntT (p := fun z => ssP (σ 30) (cmM σ) (sq i) C z && ssP (σ 30) (cmM σ) (sq j) C z) (by simp only [c65, c70, c84, c99, Bool.and_self]) h3 | (rw [cnt_f (p := fun z => ssP (σ 30) (cmM σ) (sq i) C z && ssP (σ 30) (cmM σ) (sq j) C z) (by simp only [c65, c70, c84, c99, Bool.and_false, Bool.false_and]), h3]; simp)) (by first | (exfalso; first | (rw [c65] at c84; cases c84; done) | (rw [c70] at c99; cases c99; done)) | exact cntT (p := ssP (σ 30) (cmM σ) (sq i) C) (by simp only [c65, c70, c84, c99]) h4 | (rw [cnt_f (p := ssP (σ 30) (cmM σ) (sq i) C) (by simp only [c65, c70, c84, c99]), h4]; simp)) (by first | (exfalso; first | (rw [c65] at c84; cases c84; done) | (rw [c70] at c99; cases c99; done)) | exact cntT (p := ssP (σ 30) (cmM σ) (sq j) C) (by simp only [c65, c70, c84, c99]) h5 | (rw [cnt_f (p := ssP (σ 30) (cmM σ) (sq j) C) (by simp only [c65, c70, c84, c99]), h5]; simp)) hH hS (lv_sub hl [6, 7, 8, 3, 2, 1, 0] rfl)
                  · refine lv_iconst (v := 1) hx hb dX9_sideOverlap_102 (by decide) ?_
                    refine lv_goto (tgt := 107) hx hb dX9_sideOverlap_103 (by decide) ?_
                    refine lv_iadd hx hb dX9_sideOverlap_107 ?_
                    refine lv_istore (lv' := [(5, .int (x5 + (1 : Int32))), (4, .int (x4 + (1 : Int32))), (3, .int (x3 + (1 : Int32))), (8, .int (b2i (ssP (σ 30) (cmM σ) (sq j) C z))), (7, .int (b2i (ssP (σ 30) (cmM σ) (sq i) C z))), (0, .ref (G.2.1 29)), (1, .int x), (2, .int y), (6, .int (nI z))]) hx hb dX9_sideOverlap_108 hl (by decide) rfl (fun ls hl => ?_)
                    refine lv_iinc (v := nI (z + 1)) (lv' := [(6, .int (nI (z + 1))), (5, .int (x5 + (1 : Int32))), (4, .int (x4 + (1 : Int32))), (3, .int (x3 + (1 : Int32))), (8, .int (b2i (ssP (σ 30) (cmM σ) (sq j) C z))), (7, .int (b2i (ssP (σ 30) (cmM σ) (sq i) C z))), (0, .ref (G.2.1 29)), (1, .int x), (2, .int y)]) hx hb dX9_sideOverlap_110 hl (k := 8) rfl (nI_1 _) (by decide) rfl (fun ls hl => ?_)
                    refine lv_goto (tgt := 30) hx hb dX9_sideOverlap_113 (by decide) ?_
                    exact ih30 (z + 1) (x3 + (1 : Int32)) (x4 + (1 : Int32)) (x5 + (1 : Int32)) _ _ ls (by omega) (by omega) (by first | (exfalso; first | (rw [c65] at c84; cases c84; done) | (rw [c70] at c99; cases c99; done)) | exact cntT (p := fun z => ssP (σ 30) (cmM σ) (sq i) C z && ssP (σ 30) (cmM σ) (sq j) C z) (by simp only [c65, c70, c84, c99, Bool.and_self]) h3 | (rw [cnt_f (p := fun z => ssP (σ 30) (cmM σ) (sq i) C z && ssP (σ 30) (cmM σ) (sq j) C z) (by simp only [c65, c70, c84, c99, Bool.and_false, Bool.false_and]), h3]; simp)) (by first | (exfalso; first | (rw [c65] at c84; cases c84; done) | (rw [c70] at c99; cases c99; done)) | exact cntT (p := ssP (σ 30) (cmM σ) (sq i) C) (by simp only [c65, c70, c84, c99]) h4 | (rw [cnt_f (p := ssP (σ 30) (cmM σ) (sq i) C) (by simp only [c65, c70, c84, c99]), h4]; simp)) (by first | (exfalso; first | (rw [c65] at c84; cases c84; done) | (rw [c70] at c99; cases c99; done)) | exact cntT (p := ssP (σ 30) (cmM σ) (sq j) C) (by simp only [c65, c70, c84, c99]) h5 | (rw [cnt_f (p := ssP (σ 30) (cmM σ) (sq j) C) (by simp only [c65, c70, c84, c99]), h5]; simp)) hH hS (lv_sub hl [6, 7, 8, 3, 2, 1, 0] rfl)
      exact lp30 (R * C + 1) 0 (0 : Int32) (0 : Int32) (0 : Int32) _ _ ls (by omega) (by omega) rfl rfl rfl hH hS (lv_sub hl [4, 5, 6, 3, 2, 1, 0] rfl)
    · refine lv_bipush (v := (-2)) hx hb dX9_sideOverlap_16 (by decide) ?_
      exact r_iret CF hr hlk hH hS dX9_sideOverlap_18 ⟨by simp [aSide, c5, c13], rfl⟩

theorem dist_le {i j r c : Nat} (h1 : i < 10) (h2 : r < 10) (h3 : j < 16) (h4 : c < 16) (h : ab (nI i - nI r) ≤ ab (nI j - nI c)) : ab (nI j - nI c) = nI (mx (ad1 i r) (ad1 j c)) := nn_le (pr := r) (pc := c) (r := i) (c := j) h2 h4 h1 h3 h
theorem dist_gt {i j r c : Nat} (h1 : i < 10) (h2 : r < 10) (h3 : j < 16) (h4 : c < 16) (h : ¬ ab (nI i - nI r) ≤ ab (nI j - nI c)) : ab (nI i - nI r) = nI (mx (ad1 i r) (ad1 j c)) := nn_gt (pr := r) (pc := c) (r := i) (c := j) h2 h4 h1 h3 h
theorem rzV_hi {ht h : Int32} {rad d : Nat} (q : ¬ h + ht * nI (rad + 1 - d) / nI (rad + 1) ≤ 999) : (999 : Int32) = rzV ht rad d h := by
  unfold rzV
  rw [if_neg (by revert q; generalize h + ht * nI (rad + 1 - d) / nI (rad + 1) = x; intro q; grind)]
theorem rzV_lo {ht h : Int32} {rad d : Nat} (q : h + ht * nI (rad + 1 - d) / nI (rad + 1) ≤ 999) : h + ht * nI (rad + 1 - d) / nI (rad + 1) = rzV ht rad d h := by
  unfold rzV
  revert q; generalize h + ht * nI (rad + 1 - d) / nI (rad + 1) = x; intro q; grind

set_option maxRecDepth 100000 in
set_option maxHeartbeats 4000000 in
theorem c_X9_raiseHill (l : Launch) (G : Gm) (σ : Sg) (R C n : Nat) (sq : Nat → S4) (hA : MA σ R C n sq) (x y w h : Int32) : Met l yX9_raiseHill wsX9_raiseHill (rmO 2 44) (PP G [.ref (G.2.1 29), .int x, .int y, .int w, .int h] σ) (QI G (RV (aHill R C (σ 30) x y w h) (if (inB x R && inB y C) && (isW w 0 5 && isW h 1 999) then va_up σ 30 (rzS C (NN x) (NN y) (NN w) h (σ 30) (R * C)).1 else σ))) 0 0 (fr G) := by
  refine r_start (cc := cX9_raiseHill) (maxL := 10) (ret := (some .int)) (by decide) rfl (Nat.le_of_ble_eq_true rfl) ?_
  intro pz ez sz mz below meth cz ls CF hr hlk hK hH hS hl
  have CF : CallFix pz mz cz cX9_raiseHill 10 sz (List.toArray [.ref (G.2.1 29), .int x, .int y, .int w, .int h]) wsX9_raiseHill RX9 := CF
  have hx := CF.1
  have hb := CF.2.1
  have hown := CF.2.2.2.1
  have hts := CF.2.2.2.2
  have hl : lv_has ls 10 [(0, .ref (G.2.1 29)), (1, .int x), (2, .int y), (3, .int w), (4, .int h)] := hl
  have K1 := hts _ (List.mem_of_getElem? (i := 1) rfl)
  have K2 := hts _ (List.mem_of_getElem? (i := 2) rfl)
  have K3 := hts _ (List.mem_of_getElem? (i := 3) rfl)
  have JX9 : ∀ w ∈ wsX90, w ∈ wsX9_raiseHill := in_r _ [15, 16, 17, 18, 19, 20, 21, 22, 23, 24, 25, 26, 27, 28, 29, 30, 31, 32, 33, 34] (by decide +kernel)
  obtain ⟨hR, hC, hR3, hR10, hC4, hC16, hM⟩ := hA
  have hn := hM.1
  have hn8 := hM.2.1
  refine lv_aload_n hx hb dX9_raiseHill_0 rfl (lv_at hl 0 rfl) ?_
  refine lv_iload_n hx hb dX9_raiseHill_1 rfl (lv_at hl 1 rfl) ?_
  refine lv_iload_n hx hb dX9_raiseHill_2 rfl (lv_at hl 2 rfl) ?_
  refine r_cR hS (r_runV (n := 2) (As := [.int x, .int y]) (rest := []) CF hK hH (c_X9_isCell l G σ R C n sq ⟨hR, hC, hR3, hR10, hC4, hC16, hM⟩ x y) gX9_raiseHill_X9_isCell rfl rfl rfl rfl (by decide +kernel) ⟨⟨Nat.le_of_ble_eq_true rfl, Nat.le_of_ble_eq_true rfl⟩, Nat.le_of_ble_eq_true rfl, Nat.le_of_ble_eq_true rfl⟩ 29 rfl (Nat.le_of_ble_eq_true rfl) rfl rfl rfl hl.1 rfl (Nat.le_of_ble_eq_true rfl) dX9_raiseHill_3) (fun H locs hH hS => ?_)
  refine r_ifneB (tgt := 11) hx hb dX9_raiseHill_6 (by decide) (fun c6 => ?_) (fun c6 => ?_)
  · obtain ⟨r, c, hr1, hc1, ex, ey, exN, eyN⟩ := inC_of c6 hR10 hC16
    refine lv_iload_n hx hb dX9_raiseHill_11 rfl (lv_at hl 3 rfl) ?_
    refine lv_iconst (v := 0) hx hb dX9_raiseHill_12 (by decide) ?_
    refine lv_iconst (v := 5) hx hb dX9_raiseHill_13 (by decide) ?_
    refine r_cR hS (r_runS (n := 3) (As := [.int w, .int (0 : Int32), .int (5 : Int32)]) (rest := []) CF hK hH (c_X9_isBetween l G σ w (0 : Int32) (5 : Int32)) gX9_raiseHill_X9_isBetween rfl rfl rfl (by decide +kernel) ⟨⟨Nat.le_of_ble_eq_true rfl, Nat.le_of_ble_eq_true rfl⟩, Nat.le_of_ble_eq_true rfl, Nat.le_of_ble_eq_true rfl⟩ rfl hl.1 rfl (Nat.le_of_ble_eq_true rfl) dX9_raiseHill_14) (fun H locs hH hS => ?_)
    refine r_ifeqB (tgt := 32) hx hb dX9_raiseHill_17 (by decide) (fun c17 => ?_) (fun c17 => ?_)
    · refine lv_bipush (v := (-4)) hx hb dX9_raiseHill_32 (by decide) ?_
      exact r_iret CF hr hlk hH hS dX9_raiseHill_34 ⟨by simp [aHill, c6, c17], by simp [c6, c17]⟩
    · refine lv_iload hx hb dX9_raiseHill_20 (lv_at hl 4 rfl) ?_
      refine lv_iconst (v := 1) hx hb dX9_raiseHill_22 (by decide) ?_
      refine lv_sipush (v := 999) hx hb dX9_raiseHill_23 (by decide) ?_
      refine r_cR hS (r_runS (n := 3) (As := [.int h, .int (1 : Int32), .int (999 : Int32)]) (rest := []) CF hK hH (c_X9_isBetween l G σ h (1 : Int32) (999 : Int32)) gX9_raiseHill_X9_isBetween rfl rfl rfl (by decide +kernel) ⟨⟨Nat.le_of_ble_eq_true rfl, Nat.le_of_ble_eq_true rfl⟩, Nat.le_of_ble_eq_true rfl, Nat.le_of_ble_eq_true rfl⟩ rfl hl.1 rfl (Nat.le_of_ble_eq_true rfl) dX9_raiseHill_26) (fun H locs hH hS => ?_)
      refine r_ifneB (tgt := 35) hx hb dX9_raiseHill_29 (by decide) (fun c29 => ?_) (fun c29 => ?_)
      · obtain ⟨rd, hrd0, hrd5, erd, erdN⟩ := isW_of (a := 0) (b := 5) c17 (by omega) (by omega)
        refine lv_iconst (v := 0) hx hb dX9_raiseHill_35 (by decide) ?_
        refine lv_istore (lv' := [(5, .int (0 : Int32)), (0, .ref (G.2.1 29)), (1, .int x), (2, .int y), (3, .int w), (4, .int h)]) hx hb dX9_raiseHill_36 hl (by decide) rfl (fun ls hl => ?_)
        refine lv_iconst (v := 0) hx hb dX9_raiseHill_38 (by decide) ?_
        refine lv_istore (lv' := [(6, .int (0 : Int32)), (5, .int (0 : Int32)), (0, .ref (G.2.1 29)), (1, .int x), (2, .int y), (3, .int w), (4, .int h)]) hx hb dX9_raiseHill_39 hl (by decide) rfl (fun ls hl => ?_)
        have lp41 : ∀ (fu : Nat) (i : Nat) (x5 : Int32) (σ1 : Sg) (H : Heap) (locs : List Loc) (ls : Array Slot), (R + 1 ≤ i + fu) → (i ≤ R) → (x5 = nI (rzS C r c rd h (σ 30) (i * C)).2) → (σ1 = va_up σ 30 (rzS C r c rd h (σ 30) (i * C)).1) → Hp G σ1 H → va_S (fr G) sz.heap H locs → lv_has ls 10 [(0, .ref (G.2.1 29)), (1, .int x), (2, .int y), (3, .int w), (4, .int h), (5, .int x5), (6, .int (nI i))] → W pz l ez (rmO 2 44) sz mz (List.toArray [.ref (G.2.1 29), .int x, .int y, .int w, .int h]) below meth cz H locs 0 0 (MQ below (QI G (RV (aHill R C (σ 30) x y w h) (if (inB x R && inB y C) && (isW w 0 5 && isW h 1 999) then va_up σ 30 (rzS C (NN x) (NN y) (NN w) h (σ 30) (R * C)).1 else σ))) (List.toArray [.ref (G.2.1 29), .int x, .int y, .int w, .int h]) sz 0 0 (fr G)) (F0 mz 41 ls []) := by
          intro fu
          induction fu with
          | zero => intros; omega
          | succ fu ih41 =>
            intro i x5 σ1 H locs ls hf hi hz hσ hH hS hl
            refine lv_iload hx hb dX9_raiseHill_41 (lv_at hl 6 rfl) ?_
            refine lv_aload_n hx hb dX9_raiseHill_43 rfl (lv_at hl 0 rfl) ?_
            refine r_get CF hK hH 29 (Nat.le_of_ble_eq_true rfl) rfl rfl JX9 0 (by decide) K1 rfl dX9_raiseHill_44 ?_
            refine r_top (show (σ1 29 0 : Int32) = nI R from (by rw [hσ]; exact hR)) ?_
            refine lv_icmp_ge (tgt := 206) hx hb dX9_raiseHill_47 (by decide) (fun c47 => ?_) (fun c47 => ?_)
            · have c47 : R ≤ i := (nI_leI (a := R) (b := i) (by omega) (by omega)).mp c47
              refine lv_iload hx hb dX9_raiseHill_206 (lv_at hl 5 rfl) ?_
              exact r_iret CF hr hlk hH hS dX9_raiseHill_208 ⟨by have e : i = R := (by omega); subst e; simp [aHill, c6, c17, c29, exN, eyN, erdN, hz], by have e : i = R := (by omega); subst e; simp [c6, c17, c29, exN, eyN, erdN, hσ]⟩
            · have c47 : i < R := Nat.lt_of_not_le (fun zq => c47 ((nI_leI (a := R) (b := i) (by omega) (by omega)).mpr zq))
              refine lv_iconst (v := 0) hx hb dX9_raiseHill_50 (by decide) ?_
              refine lv_istore (lv' := [(7, .int (0 : Int32)), (0, .ref (G.2.1 29)), (1, .int x), (2, .int y), (3, .int w), (4, .int h), (5, .int x5), (6, .int (nI i))]) hx hb dX9_raiseHill_51 hl (by decide) rfl (fun ls hl => ?_)
              have lp53 : ∀ (fv : Nat) (j : Nat) (y5 : Int32) (σ1' : Sg) (H : Heap) (locs : List Loc) (ls : Array Slot), (C + 1 ≤ j + fv) → (j ≤ C) → (y5 = nI (rzS C r c rd h (σ 30) ((i * C + j))).2) → (σ1' = va_up σ 30 (rzS C r c rd h (σ 30) ((i * C + j))).1) → Hp G σ1' H → va_S (fr G) sz.heap H locs → lv_has ls 10 [(0, .ref (G.2.1 29)), (1, .int x), (2, .int y), (3, .int w), (4, .int h), (5, .int y5), (6, .int (nI i)), (7, .int (nI j))] → W pz l ez (rmO 2 44) sz mz (List.toArray [.ref (G.2.1 29), .int x, .int y, .int w, .int h]) below meth cz H locs 0 0 (MQ below (QI G (RV (aHill R C (σ 30) x y w h) (if (inB x R && inB y C) && (isW w 0 5 && isW h 1 999) then va_up σ 30 (rzS C (NN x) (NN y) (NN w) h (σ 30) (R * C)).1 else σ))) (List.toArray [.ref (G.2.1 29), .int x, .int y, .int w, .int h]) sz 0 0 (fr G)) (F0 mz 53 ls []) := by
                intro fv
                induction fv with
                | zero => intros; omega
                | succ fv ih53 =>
                  intro j y5 σ1' H locs ls hg hj hz' hσ' hH hS hl
                  refine lv_iload hx hb dX9_raiseHill_53 (lv_at hl 7 rfl) ?_
                  refine lv_aload_n hx hb dX9_raiseHill_55 rfl (lv_at hl 0 rfl) ?_
                  refine r_get CF hK hH 29 (Nat.le_of_ble_eq_true rfl) rfl rfl JX9 1 (by decide) K2 rfl dX9_raiseHill_56 ?_
                  refine r_top (show (σ1' 29 1 : Int32) = nI C from (by rw [hσ']; exact hC)) ?_
                  refine lv_icmp_ge (tgt := 200) hx hb dX9_raiseHill_59 (by decide) (fun c59 => ?_) (fun c59 => ?_)
                  · have c59 : C ≤ j := (nI_leI (a := C) (b := j) (by omega) (by omega)).mp c59
                    refine lv_iinc (v := nI (i + 1)) (lv' := [(6, .int (nI (i + 1))), (0, .ref (G.2.1 29)), (1, .int x), (2, .int y), (3, .int w), (4, .int h), (5, .int y5), (7, .int (nI j))]) hx hb dX9_raiseHill_200 hl (k := 6) rfl (nI_1 _) (by decide) rfl (fun ls hl => ?_)
                    refine lv_goto (tgt := 41) hx hb dX9_raiseHill_203 (by decide) ?_
                    exact ih41 (i + 1) y5 σ1' _ _ ls (by omega) (by omega) (by have e : (i + 1) * C = i * C + j := (by have e2 : j = C := (by omega); rw [e2, Nat.succ_mul]); rw [e]; exact hz') (by have e : (i + 1) * C = i * C + j := (by have e2 : j = C := (by omega); rw [e2, Nat.succ_mul]); rw [e]; exact hσ') hH hS (lv_sub hl [1, 2, 3, 4, 5, 6, 0] rfl)
                  · have c59 : j < C := Nat.lt_of_not_le (fun zq => c59 ((nI_leI (a := C) (b := j) (by omega) (by omega)).mpr zq))
                    have hmx := mx_lt (show i < 10 by omega) (show r < 10 by omega) (show j < 16 by omega) (show c < 16 by omega)
                    refine lv_iload hx hb dX9_raiseHill_62 (lv_at hl 6 rfl) ?_
                    refine lv_iload_n hx hb dX9_raiseHill_64 rfl (lv_at hl 1 rfl) ?_
                    refine r_top (show (x : Int32) = nI r from ex) ?_
                    refine lv_isub hx hb dX9_raiseHill_65 ?_
                    refine r_cR hS (r_runS (n := 1) (As := [.int ((nI i) - (nI r))]) (rest := []) CF hK hH (c_X9_size l G σ1' ((nI i) - (nI r))) gX9_raiseHill_X9_size rfl rfl rfl (by decide +kernel) ⟨⟨Nat.le_of_ble_eq_true rfl, Nat.le_of_ble_eq_true rfl⟩, Nat.le_of_ble_eq_true rfl, Nat.le_of_ble_eq_true rfl⟩ rfl hl.1 rfl (Nat.le_of_ble_eq_true rfl) dX9_raiseHill_66) (fun H locs hH hS => ?_)
                    refine lv_iload hx hb dX9_raiseHill_69 (lv_at hl 7 rfl) ?_
                    refine lv_iload_n hx hb dX9_raiseHill_71 rfl (lv_at hl 2 rfl) ?_
                    refine r_top (show (y : Int32) = nI c from ey) ?_
                    refine lv_isub hx hb dX9_raiseHill_72 ?_
                    refine r_cR hS (r_runS (n := 1) (As := [.int ((nI j) - (nI c))]) (rest := [.int (ab ((nI i) - (nI r)))]) CF hK hH (c_X9_size l G σ1' ((nI j) - (nI c))) gX9_raiseHill_X9_size rfl rfl rfl (by decide +kernel) ⟨⟨Nat.le_of_ble_eq_true rfl, Nat.le_of_ble_eq_true rfl⟩, Nat.le_of_ble_eq_true rfl, Nat.le_of_ble_eq_true rfl⟩ rfl hl.1 rfl (Nat.le_of_ble_eq_true rfl) dX9_raiseHill_73) (fun H locs hH hS => ?_)
                    refine lv_icmp_le (tgt := 89) hx hb dX9_raiseHill_76 (by decide) (fun c76 => ?_) (fun c76 => ?_)
                    · refine lv_iload hx hb dX9_raiseHill_89 (lv_at hl 7 rfl) ?_
                      refine lv_iload_n hx hb dX9_raiseHill_91 rfl (lv_at hl 2 rfl) ?_
                      refine r_top (show (y : Int32) = nI c from ey) ?_
                      refine lv_isub hx hb dX9_raiseHill_92 ?_
                      refine r_cR hS (r_runS (n := 1) (As := [.int ((nI j) - (nI c))]) (rest := []) CF hK hH (c_X9_size l G σ1' ((nI j) - (nI c))) gX9_raiseHill_X9_size rfl rfl rfl (by decide +kernel) ⟨⟨Nat.le_of_ble_eq_true rfl, Nat.le_of_ble_eq_true rfl⟩, Nat.le_of_ble_eq_true rfl, Nat.le_of_ble_eq_true rfl⟩ rfl hl.1 rfl (Nat.le_of_ble_eq_true rfl) dX9_raiseHill_93) (fun H locs hH hS => ?_)
                      refine r_top (show (ab ((nI j) - (nI c)) : Int32) = nI (mx (ad1 i r) (ad1 j c)) from dist_le (by omega) (by omega) (by omega) (by omega) c76) ?_
                      refine lv_istore (lv' := [(8, .int (nI (mx (ad1 i r) (ad1 j c)))), (0, .ref (G.2.1 29)), (1, .int x), (2, .int y), (3, .int w), (4, .int h), (5, .int y5), (6, .int (nI i)), (7, .int (nI j))]) hx hb dX9_raiseHill_96 hl (by decide) rfl (fun ls hl => ?_)
                      refine lv_iload hx hb dX9_raiseHill_98 (lv_at hl 0 rfl) ?_
                      refine lv_iload_n hx hb dX9_raiseHill_100 rfl (lv_at hl 4 rfl) ?_
                      refine r_top (show (w : Int32) = nI rd from erd) ?_
                      refine lv_icmp_gt (tgt := 194) hx hb dX9_raiseHill_101 (by decide) (fun c101 => ?_) (fun c101 => ?_)
                      · have c101 : ¬ mx (ad1 i r) (ad1 j c) ≤ rd := Nat.not_le.mpr ((nI_ltI (by omega) (by omega)).mp c101)
                        refine lv_iinc (v := nI (j + 1)) (lv' := [(7, .int (nI (j + 1))), (8, .int (nI (mx (ad1 i r) (ad1 j c)))), (0, .ref (G.2.1 29)), (1, .int x), (2, .int y), (3, .int w), (4, .int h), (5, .int y5), (6, .int (nI i))]) hx hb dX9_raiseHill_194 hl (k := 8) rfl (nI_1 _) (by decide) rfl (fun ls hl => ?_)
                        refine lv_goto (tgt := 53) hx hb dX9_raiseHill_197 (by decide) ?_
                        exact ih53 (j + 1) y5 σ1' _ _ ls (by omega) (by omega) (by rw [show i * C + (j + 1) = i * C + j + 1 from rfl, rzS_f c59 c101]; exact hz') (by rw [show i * C + (j + 1) = i * C + j + 1 from rfl, rzS_f c59 c101]; exact hσ') hH hS (lv_sub hl [2, 3, 4, 5, 6, 7, 8, 0] rfl)
                      · have c101 : mx (ad1 i r) (ad1 j c) ≤ rd := Nat.le_of_not_lt (fun zq => c101 (nI_lt zq (by omega)))
                        refine lv_aload_n hx hb dX9_raiseHill_104 rfl (lv_at hl 1 rfl) ?_
                        refine r_get CF hK hH 29 (Nat.le_of_ble_eq_true rfl) rfl rfl JX9 9 (by decide) K3 rfl dX9_raiseHill_105 ?_
                        refine lv_bipush (v := 16) hx hb dX9_raiseHill_108 (by decide) ?_
                        refine lv_iload hx hb dX9_raiseHill_110 (lv_at hl 7 rfl) ?_
                        refine lv_imul hx hb dX9_raiseHill_112 ?_
                        refine lv_iload hx hb dX9_raiseHill_113 (lv_at hl 8 rfl) ?_
                        refine lv_iadd hx hb dX9_raiseHill_115 ?_
                        refine r_top (show ((((16 : Int32) * (nI i)) + (nI j)) : Int32) = nI (16 * i + j) from ix16b i j) ?_
                        refine r_iald CF hK hH 30 (Nat.le_of_ble_eq_true rfl) rfl (Nat.le_of_ble_eq_true rfl) (16 * i + j) rfl (by omega) dX9_raiseHill_116 ?_
                        refine lv_iload hx hb dX9_raiseHill_117 (lv_at hl 5 rfl) ?_
                        refine lv_iload_n hx hb dX9_raiseHill_119 rfl (lv_at hl 4 rfl) ?_
                        refine r_top (show (w : Int32) = nI rd from erd) ?_
                        refine lv_iconst (v := 1) hx hb dX9_raiseHill_120 (by decide) ?_
                        refine lv_iadd hx hb dX9_raiseHill_121 ?_
                        refine r_top (show (((nI rd) + (1 : Int32)) : Int32) = nI (rd + 1) from nI_1 rd) ?_
                        refine lv_iload hx hb dX9_raiseHill_122 (lv_at hl 0 rfl) ?_
                        refine lv_isub hx hb dX9_raiseHill_124 ?_
                        refine r_top (show (((nI (rd + 1)) - (nI (mx (ad1 i r) (ad1 j c)))) : Int32) = nI (rd + 1 - mx (ad1 i r) (ad1 j c)) from (pk_sub (by omega))) ?_
                        refine lv_imul hx hb dX9_raiseHill_125 ?_
                        refine lv_iload_n hx hb dX9_raiseHill_126 rfl (lv_at hl 4 rfl) ?_
                        refine r_top (show (w : Int32) = nI rd from erd) ?_
                        refine lv_iconst (v := 1) hx hb dX9_raiseHill_127 (by decide) ?_
                        refine lv_iadd hx hb dX9_raiseHill_128 ?_
                        refine r_top (show (((nI rd) + (1 : Int32)) : Int32) = nI (rd + 1) from nI_1 rd) ?_
                        refine lv_idiv hx hb dX9_raiseHill_129 (nI_ne0 (by omega) (by omega)) ?_
                        refine lv_iadd hx hb dX9_raiseHill_130 ?_
                        refine lv_istore (lv' := [(9, .int ((σ1' 30 (16 * i + j)) + ((h * (nI (rd + 1 - mx (ad1 i r) (ad1 j c)))) / (nI (rd + 1))))), (8, .int (nI (mx (ad1 i r) (ad1 j c)))), (0, .ref (G.2.1 29)), (1, .int x), (2, .int y), (3, .int w), (4, .int h), (5, .int y5), (6, .int (nI i)), (7, .int (nI j))]) hx hb dX9_raiseHill_131 hl (by decide) rfl (fun ls hl => ?_)
                        refine lv_iload hx hb dX9_raiseHill_133 (lv_at hl 0 rfl) ?_
                        refine lv_sipush (v := 999) hx hb dX9_raiseHill_135 (by decide) ?_
                        refine lv_icmp_le (tgt := 147) hx hb dX9_raiseHill_138 (by decide) (fun c138 => ?_) (fun c138 => ?_)
                        · refine lv_iload hx hb dX9_raiseHill_147 (lv_at hl 0 rfl) ?_
                          refine r_top (show (((σ1' 30 (16 * i + j)) + ((h * (nI (rd + 1 - mx (ad1 i r) (ad1 j c)))) / (nI (rd + 1)))) : Int32) = rzV h rd (mx (ad1 i r) (ad1 j c)) (σ1' 30 (16 * i + j)) from (rzV_lo c138)) ?_
                          refine lv_istore (lv' := [(9, .int (rzV h rd (mx (ad1 i r) (ad1 j c)) (σ1' 30 (16 * i + j)))), (8, .int (nI (mx (ad1 i r) (ad1 j c)))), (0, .ref (G.2.1 29)), (1, .int x), (2, .int y), (3, .int w), (4, .int h), (5, .int y5), (6, .int (nI i)), (7, .int (nI j))]) hx hb dX9_raiseHill_149 hl (by decide) rfl (fun ls hl => ?_)
                          refine lv_iload hx hb dX9_raiseHill_151 (lv_at hl 7 rfl) ?_
                          refine lv_iload hx hb dX9_raiseHill_153 (lv_at hl 0 rfl) ?_
                          refine lv_aload_n hx hb dX9_raiseHill_155 rfl (lv_at hl 2 rfl) ?_
                          refine r_get CF hK hH 29 (Nat.le_of_ble_eq_true rfl) rfl rfl JX9 9 (by decide) K3 rfl dX9_raiseHill_156 ?_
                          refine lv_bipush (v := 16) hx hb dX9_raiseHill_159 (by decide) ?_
                          refine lv_iload hx hb dX9_raiseHill_161 (lv_at hl 8 rfl) ?_
                          refine lv_imul hx hb dX9_raiseHill_163 ?_
                          refine lv_iload hx hb dX9_raiseHill_164 (lv_at hl 9 rfl) ?_
                          refine lv_iadd hx hb dX9_raiseHill_166 ?_
                          refine r_top (show ((((16 : Int32) * (nI i)) + (nI j)) : Int32) = nI (16 * i + j) from ix16b i j) ?_
                          refine r_iald CF hK hH 30 (Nat.le_of_ble_eq_true rfl) rfl (Nat.le_of_ble_eq_true rfl) (16 * i + j) rfl (by omega) dX9_raiseHill_167 ?_
                          refine lv_icmp_ne (tgt := 175) hx hb dX9_raiseHill_168 (by decide) (fun c168 => ?_) (fun c168 => ?_)
                          · refine lv_iconst (v := 1) hx hb dX9_raiseHill_175 (by decide) ?_
                            refine lv_iadd hx hb dX9_raiseHill_176 ?_
                            refine lv_istore (lv' := [(5, .int (y5 + (1 : Int32))), (9, .int (rzV h rd (mx (ad1 i r) (ad1 j c)) (σ1' 30 (16 * i + j)))), (8, .int (nI (mx (ad1 i r) (ad1 j c)))), (0, .ref (G.2.1 29)), (1, .int x), (2, .int y), (3, .int w), (4, .int h), (6, .int (nI i)), (7, .int (nI j))]) hx hb dX9_raiseHill_177 hl (by decide) rfl (fun ls hl => ?_)
                            refine lv_aload_n hx hb dX9_raiseHill_179 rfl (lv_at hl 3 rfl) ?_
                            refine r_get CF hK hH 29 (Nat.le_of_ble_eq_true rfl) rfl rfl JX9 9 (by decide) K3 rfl dX9_raiseHill_180 ?_
                            refine lv_bipush (v := 16) hx hb dX9_raiseHill_183 (by decide) ?_
                            refine lv_iload hx hb dX9_raiseHill_185 (lv_at hl 8 rfl) ?_
                            refine lv_imul hx hb dX9_raiseHill_187 ?_
                            refine lv_iload hx hb dX9_raiseHill_188 (lv_at hl 9 rfl) ?_
                            refine lv_iadd hx hb dX9_raiseHill_190 ?_
                            refine r_top (show ((((16 : Int32) * (nI i)) + (nI j)) : Int32) = nI (16 * i + j) from ix16b i j) ?_
                            refine lv_iload hx hb dX9_raiseHill_191 (lv_at hl 1 rfl) ?_
                            refine r_iast CF hK hH hS 30 (Nat.le_of_ble_eq_true rfl) (fun _ => rfl) (Nat.le_of_ble_eq_true rfl) (16 * i + j) rfl (by omega) dX9_raiseHill_193 (fun H locs hH hS => ?_)
                            refine lv_iinc (v := nI (j + 1)) (lv' := [(7, .int (nI (j + 1))), (5, .int (y5 + (1 : Int32))), (9, .int (rzV h rd (mx (ad1 i r) (ad1 j c)) (σ1' 30 (16 * i + j)))), (8, .int (nI (mx (ad1 i r) (ad1 j c)))), (0, .ref (G.2.1 29)), (1, .int x), (2, .int y), (3, .int w), (4, .int h), (6, .int (nI i))]) hx hb dX9_raiseHill_194 hl (k := 9) rfl (nI_1 _) (by decide) rfl (fun ls hl => ?_)
                            refine lv_goto (tgt := 53) hx hb dX9_raiseHill_197 (by decide) ?_
                            exact ih53 (j + 1) (y5 + (1 : Int32)) (u2 σ1' 30 (16 * i + j) (rzV h rd (mx (ad1 i r) (ad1 j c)) (σ1' 30 (16 * i + j)))) _ _ ls (by omega) (by omega) (by rw [show i * C + (j + 1) = i * C + j + 1 from rfl, rzS_t c59 c101, hz']; show _ = nI (_ + _); rw [if_neg (fun q => c168 (by rw [hσ', up_s]; exact q))]; exact nI_1 _) (by rw [show i * C + (j + 1) = i * C + j + 1 from rfl, rzS_t c59 c101, hσ', u2_up, up_s]) hH hS (lv_sub hl [4, 5, 6, 7, 8, 1, 9, 0] rfl)
                          · refine lv_iconst (v := 0) hx hb dX9_raiseHill_171 (by decide) ?_
                            refine lv_goto (tgt := 176) hx hb dX9_raiseHill_172 (by decide) ?_
                            refine lv_iadd hx hb dX9_raiseHill_176 ?_
                            refine lv_istore (lv' := [(5, .int (y5 + (0 : Int32))), (9, .int (rzV h rd (mx (ad1 i r) (ad1 j c)) (σ1' 30 (16 * i + j)))), (8, .int (nI (mx (ad1 i r) (ad1 j c)))), (0, .ref (G.2.1 29)), (1, .int x), (2, .int y), (3, .int w), (4, .int h), (6, .int (nI i)), (7, .int (nI j))]) hx hb dX9_raiseHill_177 hl (by decide) rfl (fun ls hl => ?_)
                            refine lv_aload_n hx hb dX9_raiseHill_179 rfl (lv_at hl 3 rfl) ?_
                            refine r_get CF hK hH 29 (Nat.le_of_ble_eq_true rfl) rfl rfl JX9 9 (by decide) K3 rfl dX9_raiseHill_180 ?_
                            refine lv_bipush (v := 16) hx hb dX9_raiseHill_183 (by decide) ?_
                            refine lv_iload hx hb dX9_raiseHill_185 (lv_at hl 8 rfl) ?_
                            refine lv_imul hx hb dX9_raiseHill_187 ?_
                            refine lv_iload hx hb dX9_raiseHill_188 (lv_at hl 9 rfl) ?_
                            refine lv_iadd hx hb dX9_raiseHill_190 ?_
                            refine r_top (show ((((16 : Int32) * (nI i)) + (nI j)) : Int32) = nI (16 * i + j) from ix16b i j) ?_
                            refine lv_iload hx hb dX9_raiseHill_191 (lv_at hl 1 rfl) ?_
                            refine r_iast CF hK hH hS 30 (Nat.le_of_ble_eq_true rfl) (fun _ => rfl) (Nat.le_of_ble_eq_true rfl) (16 * i + j) rfl (by omega) dX9_raiseHill_193 (fun H locs hH hS => ?_)
                            refine lv_iinc (v := nI (j + 1)) (lv' := [(7, .int (nI (j + 1))), (5, .int (y5 + (0 : Int32))), (9, .int (rzV h rd (mx (ad1 i r) (ad1 j c)) (σ1' 30 (16 * i + j)))), (8, .int (nI (mx (ad1 i r) (ad1 j c)))), (0, .ref (G.2.1 29)), (1, .int x), (2, .int y), (3, .int w), (4, .int h), (6, .int (nI i))]) hx hb dX9_raiseHill_194 hl (k := 9) rfl (nI_1 _) (by decide) rfl (fun ls hl => ?_)
                            refine lv_goto (tgt := 53) hx hb dX9_raiseHill_197 (by decide) ?_
                            exact ih53 (j + 1) (y5 + (0 : Int32)) (u2 σ1' 30 (16 * i + j) (rzV h rd (mx (ad1 i r) (ad1 j c)) (σ1' 30 (16 * i + j)))) _ _ ls (by omega) (by omega) (by rw [show i * C + (j + 1) = i * C + j + 1 from rfl, rzS_t c59 c101, hz']; show _ = nI (_ + _); rw [if_pos (by have q := c168; rw [hσ', up_s] at q; exact q)]; simp) (by rw [show i * C + (j + 1) = i * C + j + 1 from rfl, rzS_t c59 c101, hσ', u2_up, up_s]) hH hS (lv_sub hl [4, 5, 6, 7, 8, 1, 9, 0] rfl)
                        · refine lv_sipush (v := 999) hx hb dX9_raiseHill_141 (by decide) ?_
                          refine r_top (show ((999) : Int32) = rzV h rd (mx (ad1 i r) (ad1 j c)) (σ1' 30 (16 * i + j)) from (rzV_hi c138)) ?_
                          refine lv_goto (tgt := 149) hx hb dX9_raiseHill_144 (by decide) ?_
                          refine lv_istore (lv' := [(9, .int (rzV h rd (mx (ad1 i r) (ad1 j c)) (σ1' 30 (16 * i + j)))), (8, .int (nI (mx (ad1 i r) (ad1 j c)))), (0, .ref (G.2.1 29)), (1, .int x), (2, .int y), (3, .int w), (4, .int h), (5, .int y5), (6, .int (nI i)), (7, .int (nI j))]) hx hb dX9_raiseHill_149 hl (by decide) rfl (fun ls hl => ?_)
                          refine lv_iload hx hb dX9_raiseHill_151 (lv_at hl 7 rfl) ?_
                          refine lv_iload hx hb dX9_raiseHill_153 (lv_at hl 0 rfl) ?_
                          refine lv_aload_n hx hb dX9_raiseHill_155 rfl (lv_at hl 2 rfl) ?_
                          refine r_get CF hK hH 29 (Nat.le_of_ble_eq_true rfl) rfl rfl JX9 9 (by decide) K3 rfl dX9_raiseHill_156 ?_
                          refine lv_bipush (v := 16) hx hb dX9_raiseHill_159 (by decide) ?_
                          refine lv_iload hx hb dX9_raiseHill_161 (lv_at hl 8 rfl) ?_
                          refine lv_imul hx hb dX9_raiseHill_163 ?_
                          refine lv_iload hx hb dX9_raiseHill_164 (lv_at hl 9 rfl) ?_
                          refine lv_iadd hx hb dX9_raiseHill_166 ?_
                          refine r_top (show ((((16 : Int32) * (nI i)) + (nI j)) : Int32) = nI (16 * i + j) from ix16b i j) ?_
                          refine r_iald CF hK hH 30 (Nat.le_of_ble_eq_true rfl) rfl (Nat.le_of_ble_eq_true rfl) (16 * i + j) rfl (by omega) dX9_raiseHill_167 ?_
                          refine lv_icmp_ne (tgt := 175) hx hb dX9_raiseHill_168 (by decide) (fun c168 => ?_) (fun c168 => ?_)
                          · refine lv_iconst (v := 1) hx hb dX9_raiseHill_175 (by decide) ?_
                            refine lv_iadd hx hb dX9_raiseHill_176 ?_
                            refine lv_istore (lv' := [(5, .int (y5 + (1 : Int32))), (9, .int (rzV h rd (mx (ad1 i r) (ad1 j c)) (σ1' 30 (16 * i + j)))), (8, .int (nI (mx (ad1 i r) (ad1 j c)))), (0, .ref (G.2.1 29)), (1, .int x), (2, .int y), (3, .int w), (4, .int h), (6, .int (nI i)), (7, .int (nI j))]) hx hb dX9_raiseHill_177 hl (by decide) rfl (fun ls hl => ?_)
                            refine lv_aload_n hx hb dX9_raiseHill_179 rfl (lv_at hl 3 rfl) ?_
                            refine r_get CF hK hH 29 (Nat.le_of_ble_eq_true rfl) rfl rfl JX9 9 (by decide) K3 rfl dX9_raiseHill_180 ?_
                            refine lv_bipush (v := 16) hx hb dX9_raiseHill_183 (by decide) ?_
                            refine lv_iload hx hb dX9_raiseHill_185 (lv_at hl 8 rfl) ?_
                            refine lv_imul hx hb dX9_raiseHill_187 ?_
                            refine lv_iload hx hb dX9_raiseHill_188 (lv_at hl 9 rfl) ?_
                            refine lv_iadd hx hb dX9_raiseHill_190 ?_
                            refine r_top (show ((((16 : Int32) * (nI i)) + (nI j)) : Int32) = nI (16 * i + j) from ix16b i j) ?_
                            refine lv_iload hx hb dX9_raiseHill_191 (lv_at hl 1 rfl) ?_
                            refine r_iast CF hK hH hS 30 (Nat.le_of_ble_eq_true rfl) (fun _ => rfl) (Nat.le_of_ble_eq_true rfl) (16 * i + j) rfl (by omega) dX9_raiseHill_193 (fun H locs hH hS => ?_)
                            refine lv_iinc (v := nI (j + 1)) (lv' := [(7, .int (nI (j + 1))), (5, .int (y5 + (1 : Int32))), (9, .int (rzV h rd (mx (ad1 i r) (ad1 j c)) (σ1' 30 (16 * i + j)))), (8, .int (nI (mx (ad1 i r) (ad1 j c)))), (0, .ref (G.2.1 29)), (1, .int x), (2, .int y), (3, .int w), (4, .int h), (6, .int (nI i))]) hx hb dX9_raiseHill_194 hl (k := 9) rfl (nI_1 _) (by decide) rfl (fun ls hl => ?_)
                            refine lv_goto (tgt := 53) hx hb dX9_raiseHill_197 (by decide) ?_
                            exact ih53 (j + 1) (y5 + (1 : Int32)) (u2 σ1' 30 (16 * i + j) (rzV h rd (mx (ad1 i r) (ad1 j c)) (σ1' 30 (16 * i + j)))) _ _ ls (by omega) (by omega) (by rw [show i * C + (j + 1) = i * C + j + 1 from rfl, rzS_t c59 c101, hz']; show _ = nI (_ + _); rw [if_neg (fun q => c168 (by rw [hσ', up_s]; exact q))]; exact nI_1 _) (by rw [show i * C + (j + 1) = i * C + j + 1 from rfl, rzS_t c59 c101, hσ', u2_up, up_s]) hH hS (lv_sub hl [4, 5, 6, 7, 8, 1, 9, 0] rfl)
                          · refine lv_iconst (v := 0) hx hb dX9_raiseHill_171 (by decide) ?_
                            refine lv_goto (tgt := 176) hx hb dX9_raiseHill_172 (by decide) ?_
                            refine lv_iadd hx hb dX9_raiseHill_176 ?_
                            refine lv_istore (lv' := [(5, .int (y5 + (0 : Int32))), (9, .int (rzV h rd (mx (ad1 i r) (ad1 j c)) (σ1' 30 (16 * i + j)))), (8, .int (nI (mx (ad1 i r) (ad1 j c)))), (0, .ref (G.2.1 29)), (1, .int x), (2, .int y), (3, .int w), (4, .int h), (6, .int (nI i)), (7, .int (nI j))]) hx hb dX9_raiseHill_177 hl (by decide) rfl (fun ls hl => ?_)
                            refine lv_aload_n hx hb dX9_raiseHill_179 rfl (lv_at hl 3 rfl) ?_
                            refine r_get CF hK hH 29 (Nat.le_of_ble_eq_true rfl) rfl rfl JX9 9 (by decide) K3 rfl dX9_raiseHill_180 ?_
                            refine lv_bipush (v := 16) hx hb dX9_raiseHill_183 (by decide) ?_
                            refine lv_iload hx hb dX9_raiseHill_185 (lv_at hl 8 rfl) ?_
                            refine lv_imul hx hb dX9_raiseHill_187 ?_
                            refine lv_iload hx hb dX9_raiseHill_188 (lv_at hl 9 rfl) ?_
                            refine lv_iadd hx hb dX9_raiseHill_190 ?_
                            refine r_top (show ((((16 : Int32) * (nI i)) + (nI j)) : Int32) = nI (16 * i + j) from ix16b i j) ?_
                            refine lv_iload hx hb dX9_raiseHill_191 (lv_at hl 1 rfl) ?_
                            refine r_iast CF hK hH hS 30 (Nat.le_of_ble_eq_true rfl) (fun _ => rfl) (Nat.le_of_ble_eq_true rfl) (16 * i + j) rfl (by omega) dX9_raiseHill_193 (fun H locs hH hS => ?_)
                            refine lv_iinc (v := nI (j + 1)) (lv' := [(7, .int (nI (j + 1))), (5, .int (y5 + (0 : Int32))), (9, .int (rzV h rd (mx (ad1 i r) (ad1 j c)) (σ1' 30 (16 * i + j)))), (8, .int (nI (mx (ad1 i r) (ad1 j c)))), (0, .ref (G.2.1 29)), (1, .int x), (2, .int y), (3, .int w), (4, .int h), (6, .int (nI i))]) hx hb dX9_raiseHill_194 hl (k := 9) rfl (nI_1 _) (by decide) rfl (fun ls hl => ?_)
                            refine lv_goto (tgt := 53) hx hb dX9_raiseHill_197 (by decide) ?_
                            exact ih53 (j + 1) (y5 + (0 : Int32)) (u2 σ1' 30 (16 * i + j) (rzV h rd (mx (ad1 i r) (ad1 j c)) (σ1' 30 (16 * i + j)))) _ _ ls (by omega) (by omega) (by rw [show i * C + (j + 1) = i * C + j + 1 from rfl, rzS_t c59 c101, hz']; show _ = nI (_ + _); rw [if_pos (by have q := c168; rw [hσ', up_s] at q; exact q)]; simp) (by rw [show i * C + (j + 1) = i * C + j + 1 from rfl, rzS_t c59 c101, hσ', u2_up, up_s]) hH hS (lv_sub hl [4, 5, 6, 7, 8, 1, 9, 0] rfl)
                    · refine lv_iload hx hb dX9_raiseHill_79 (lv_at hl 6 rfl) ?_
                      refine lv_iload_n hx hb dX9_raiseHill_81 rfl (lv_at hl 1 rfl) ?_
                      refine r_top (show (x : Int32) = nI r from ex) ?_
                      refine lv_isub hx hb dX9_raiseHill_82 ?_
                      refine r_cR hS (r_runS (n := 1) (As := [.int ((nI i) - (nI r))]) (rest := []) CF hK hH (c_X9_size l G σ1' ((nI i) - (nI r))) gX9_raiseHill_X9_size rfl rfl rfl (by decide +kernel) ⟨⟨Nat.le_of_ble_eq_true rfl, Nat.le_of_ble_eq_true rfl⟩, Nat.le_of_ble_eq_true rfl, Nat.le_of_ble_eq_true rfl⟩ rfl hl.1 rfl (Nat.le_of_ble_eq_true rfl) dX9_raiseHill_83) (fun H locs hH hS => ?_)
                      refine r_top (show (ab ((nI i) - (nI r)) : Int32) = nI (mx (ad1 i r) (ad1 j c)) from dist_gt (by omega) (by omega) (by omega) (by omega) c76) ?_
                      refine lv_goto (tgt := 96) hx hb dX9_raiseHill_86 (by decide) ?_
                      refine lv_istore (lv' := [(8, .int (nI (mx (ad1 i r) (ad1 j c)))), (0, .ref (G.2.1 29)), (1, .int x), (2, .int y), (3, .int w), (4, .int h), (5, .int y5), (6, .int (nI i)), (7, .int (nI j))]) hx hb dX9_raiseHill_96 hl (by decide) rfl (fun ls hl => ?_)
                      refine lv_iload hx hb dX9_raiseHill_98 (lv_at hl 0 rfl) ?_
                      refine lv_iload_n hx hb dX9_raiseHill_100 rfl (lv_at hl 4 rfl) ?_
                      refine r_top (show (w : Int32) = nI rd from erd) ?_
                      refine lv_icmp_gt (tgt := 194) hx hb dX9_raiseHill_101 (by decide) (fun c101 => ?_) (fun c101 => ?_)
                      · have c101 : ¬ mx (ad1 i r) (ad1 j c) ≤ rd := Nat.not_le.mpr ((nI_ltI (by omega) (by omega)).mp c101)
                        refine lv_iinc (v := nI (j + 1)) (lv' := [(7, .int (nI (j + 1))), (8, .int (nI (mx (ad1 i r) (ad1 j c)))), (0, .ref (G.2.1 29)), (1, .int x), (2, .int y), (3, .int w), (4, .int h), (5, .int y5), (6, .int (nI i))]) hx hb dX9_raiseHill_194 hl (k := 8) rfl (nI_1 _) (by decide) rfl (fun ls hl => ?_)
                        refine lv_goto (tgt := 53) hx hb dX9_raiseHill_197 (by decide) ?_
                        exact ih53 (j + 1) y5 σ1' _ _ ls (by omega) (by omega) (by rw [show i * C + (j + 1) = i * C + j + 1 from rfl, rzS_f c59 c101]; exact hz') (by rw [show i * C + (j + 1) = i * C + j + 1 from rfl, rzS_f c59 c101]; exact hσ') hH hS (lv_sub hl [2, 3, 4, 5, 6, 7, 8, 0] rfl)
                      · have c101 : mx (ad1 i r) (ad1 j c) ≤ rd := Nat.le_of_not_lt (fun zq => c101 (nI_lt zq (by omega)))
                        refine lv_aload_n hx hb dX9_raiseHill_104 rfl (lv_at hl 1 rfl) ?_
                        refine r_get CF hK hH 29 (Nat.le_of_ble_eq_true rfl) rfl rfl JX9 9 (by decide) K3 rfl dX9_raiseHill_105 ?_
                        refine lv_bipush (v := 16) hx hb dX9_raiseHill_108 (by decide) ?_
                        refine lv_iload hx hb dX9_raiseHill_110 (lv_at hl 7 rfl) ?_
                        refine lv_imul hx hb dX9_raiseHill_112 ?_
                        refine lv_iload hx hb dX9_raiseHill_113 (lv_at hl 8 rfl) ?_
                        refine lv_iadd hx hb dX9_raiseHill_115 ?_
                        refine r_top (show ((((16 : Int32) * (nI i)) + (nI j)) : Int32) = nI (16 * i + j) from ix16b i j) ?_
                        refine r_iald CF hK hH 30 (Nat.le_of_ble_eq_true rfl) rfl (Nat.le_of_ble_eq_true rfl) (16 * i + j) rfl (by omega) dX9_raiseHill_116 ?_
                        refine lv_iload hx hb dX9_raiseHill_117 (lv_at hl 5 rfl) ?_
                        refine lv_iload_n hx hb dX9_raiseHill_119 rfl (lv_at hl 4 rfl) ?_
                        refine r_top (show (w : Int32) = nI rd from erd) ?_
                        refine lv_iconst (v := 1) hx hb dX9_raiseHill_120 (by decide) ?_
                        refine lv_iadd hx hb dX9_raiseHill_121 ?_
                        refine r_top (show (((nI rd) + (1 : Int32)) : Int32) = nI (rd + 1) from nI_1 rd) ?_
                        refine lv_iload hx hb dX9_raiseHill_122 (lv_at hl 0 rfl) ?_
                        refine lv_isub hx hb dX9_raiseHill_124 ?_
                        refine r_top (show (((nI (rd + 1)) - (nI (mx (ad1 i r) (ad1 j c)))) : Int32) = nI (rd + 1 - mx (ad1 i r) (ad1 j c)) from (pk_sub (by omega))) ?_
                        refine lv_imul hx hb dX9_raiseHill_125 ?_
                        refine lv_iload_n hx hb dX9_raiseHill_126 rfl (lv_at hl 4 rfl) ?_
                        refine r_top (show (w : Int32) = nI rd from erd) ?_
                        refine lv_iconst (v := 1) hx hb dX9_raiseHill_127 (by decide) ?_
                        refine lv_iadd hx hb dX9_raiseHill_128 ?_
                        refine r_top (show (((nI rd) + (1 : Int32)) : Int32) = nI (rd + 1) from nI_1 rd) ?_
                        refine lv_idiv hx hb dX9_raiseHill_129 (nI_ne0 (by omega) (by omega)) ?_
                        refine lv_iadd hx hb dX9_raiseHill_130 ?_
                        refine lv_istore (lv' := [(9, .int ((σ1' 30 (16 * i + j)) + ((h * (nI (rd + 1 - mx (ad1 i r) (ad1 j c)))) / (nI (rd + 1))))), (8, .int (nI (mx (ad1 i r) (ad1 j c)))), (0, .ref (G.2.1 29)), (1, .int x), (2, .int y), (3, .int w), (4, .int h), (5, .int y5), (6, .int (nI i)), (7, .int (nI j))]) hx hb dX9_raiseHill_131 hl (by decide) rfl (fun ls hl => ?_)
                        refine lv_iload hx hb dX9_raiseHill_133 (lv_at hl 0 rfl) ?_
                        refine lv_sipush (v := 999) hx hb dX9_raiseHill_135 (by decide) ?_
                        refine lv_icmp_le (tgt := 147) hx hb dX9_raiseHill_138 (by decide) (fun c138 => ?_) (fun c138 => ?_)
                        · refine lv_iload hx hb dX9_raiseHill_147 (lv_at hl 0 rfl) ?_
                          refine r_top (show (((σ1' 30 (16 * i + j)) + ((h * (nI (rd + 1 - mx (ad1 i r) (ad1 j c)))) / (nI (rd + 1)))) : Int32) = rzV h rd (mx (ad1 i r) (ad1 j c)) (σ1' 30 (16 * i + j)) from (rzV_lo c138)) ?_
                          refine lv_istore (lv' := [(9, .int (rzV h rd (mx (ad1 i r) (ad1 j c)) (σ1' 30 (16 * i + j)))), (8, .int (nI (mx (ad1 i r) (ad1 j c)))), (0, .ref (G.2.1 29)), (1, .int x), (2, .int y), (3, .int w), (4, .int h), (5, .int y5), (6, .int (nI i)), (7, .int (nI j))]) hx hb dX9_raiseHill_149 hl (by decide) rfl (fun ls hl => ?_)
                          refine lv_iload hx hb dX9_raiseHill_151 (lv_at hl 7 rfl) ?_
                          refine lv_iload hx hb dX9_raiseHill_153 (lv_at hl 0 rfl) ?_
                          refine lv_aload_n hx hb dX9_raiseHill_155 rfl (lv_at hl 2 rfl) ?_
                          refine r_get CF hK hH 29 (Nat.le_of_ble_eq_true rfl) rfl rfl JX9 9 (by decide) K3 rfl dX9_raiseHill_156 ?_
                          refine lv_bipush (v := 16) hx hb dX9_raiseHill_159 (by decide) ?_
                          refine lv_iload hx hb dX9_raiseHill_161 (lv_at hl 8 rfl) ?_
                          refine lv_imul hx hb dX9_raiseHill_163 ?_
                          refine lv_iload hx hb dX9_raiseHill_164 (lv_at hl 9 rfl) ?_
                          refine lv_iadd hx hb dX9_raiseHill_166 ?_
                          refine r_top (show ((((16 : Int32) * (nI i)) + (nI j)) : Int32) = nI (16 * i + j) from ix16b i j) ?_
                          refine r_iald CF hK hH 30 (Nat.le_of_ble_eq_true rfl) rfl (Nat.le_of_ble_eq_true rfl) (16 * i + j) rfl (by omega) dX9_raiseHill_167 ?_
                          refine lv_icmp_ne (tgt := 175) hx hb dX9_raiseHill_168 (by decide) (fun c168 => ?_) (fun c168 => ?_)
                          · refine lv_iconst (v := 1) hx hb dX9_raiseHill_175 (by decide) ?_
                            refine lv_iadd hx hb dX9_raiseHill_176 ?_
                            refine lv_istore (lv' := [(5, .int (y5 + (1 : Int32))), (9, .int (rzV h rd (mx (ad1 i r) (ad1 j c)) (σ1' 30 (16 * i + j)))), (8, .int (nI (mx (ad1 i r) (ad1 j c)))), (0, .ref (G.2.1 29)), (1, .int x), (2, .int y), (3, .int w), (4, .int h), (6, .int (nI i)), (7, .int (nI j))]) hx hb dX9_raiseHill_177 hl (by decide) rfl (fun ls hl => ?_)
                            refine lv_aload_n hx hb dX9_raiseHill_179 rfl (lv_at hl 3 rfl) ?_
                            refine r_get CF hK hH 29 (Nat.le_of_ble_eq_true rfl) rfl rfl JX9 9 (by decide) K3 rfl dX9_raiseHill_180 ?_
                            refine lv_bipush (v := 16) hx hb dX9_raiseHill_183 (by decide) ?_
                            refine lv_iload hx hb dX9_raiseHill_185 (lv_at hl 8 rfl) ?_
                            refine lv_imul hx hb dX9_raiseHill_187 ?_
                            refine lv_iload hx hb dX9_raiseHill_188 (lv_at hl 9 rfl) ?_
                            refine lv_iadd hx hb dX9_raiseHill_190 ?_
                            refine r_top (show ((((16 : Int32) * (nI i)) + (nI j)) : Int32) = nI (16 * i + j) from ix16b i j) ?_
                            refine lv_iload hx hb dX9_raiseHill_191 (lv_at hl 1 rfl) ?_
                            refine r_iast CF hK hH hS 30 (Nat.le_of_ble_eq_true rfl) (fun _ => rfl) (Nat.le_of_ble_eq_true rfl) (16 * i + j) rfl (by omega) dX9_raiseHill_193 (fun H locs hH hS => ?_)
                            refine lv_iinc (v := nI (j + 1)) (lv' := [(7, .int (nI (j + 1))), (5, .int (y5 + (1 : Int32))), (9, .int (rzV h rd (mx (ad1 i r) (ad1 j c)) (σ1' 30 (16 * i + j)))), (8, .int (nI (mx (ad1 i r) (ad1 j c)))), (0, .ref (G.2.1 29)), (1, .int x), (2, .int y), (3, .int w), (4, .int h), (6, .int (nI i))]) hx hb dX9_raiseHill_194 hl (k := 9) rfl (nI_1 _) (by decide) rfl (fun ls hl => ?_)
                            refine lv_goto (tgt := 53) hx hb dX9_raiseHill_197 (by decide) ?_
                            exact ih53 (j + 1) (y5 + (1 : Int32)) (u2 σ1' 30 (16 * i + j) (rzV h rd (mx (ad1 i r) (ad1 j c)) (σ1' 30 (16 * i + j)))) _ _ ls (by omega) (by omega) (by rw [show i * C + (j + 1) = i * C + j + 1 from rfl, rzS_t c59 c101, hz']; show _ = nI (_ + _); rw [if_neg (fun q => c168 (by rw [hσ', up_s]; exact q))]; exact nI_1 _) (by rw [show i * C + (j + 1) = i * C + j + 1 from rfl, rzS_t c59 c101, hσ', u2_up, up_s]) hH hS (lv_sub hl [4, 5, 6, 7, 8, 1, 9, 0] rfl)
                          · refine lv_iconst (v := 0) hx hb dX9_raiseHill_171 (by decide) ?_
                            refine lv_goto (tgt := 176) hx hb dX9_raiseHill_172 (by decide) ?_
                            refine lv_iadd hx hb dX9_raiseHill_176 ?_
                            refine lv_istore (lv' := [(5, .int (y5 + (0 : Int32))), (9, .int (rzV h rd (mx (ad1 i r) (ad1 j c)) (σ1' 30 (16 * i + j)))), (8, .int (nI (mx (ad1 i r) (ad1 j c)))), (0, .ref (G.2.1 29)), (1, .int x), (2, .int y), (3, .int w), (4, .int h), (6, .int (nI i)), (7, .int (nI j))]) hx hb dX9_raiseHill_177 hl (by decide) rfl (fun ls hl => ?_)
                            refine lv_aload_n hx hb dX9_raiseHill_179 rfl (lv_at hl 3 rfl) ?_
                            refine r_get CF hK hH 29 (Nat.le_of_ble_eq_true rfl) rfl rfl JX9 9 (by decide) K3 rfl dX9_raiseHill_180 ?_
                            refine lv_bipush (v := 16) hx hb dX9_raiseHill_183 (by decide) ?_
                            refine lv_iload hx hb dX9_raiseHill_185 (lv_at hl 8 rfl) ?_
                            refine lv_imul hx hb dX9_raiseHill_187 ?_
                            refine lv_iload hx hb dX9_raiseHill_188 (lv_at hl 9 rfl) ?_
                            refine lv_iadd hx hb dX9_raiseHill_190 ?_
                            refine r_top (show ((((16 : Int32) * (nI i)) + (nI j)) : Int32) = nI (16 * i + j) from ix16b i j) ?_
                            refine lv_iload hx hb dX9_raiseHill_191 (lv_at hl 1 rfl) ?_
                            refine r_iast CF hK hH hS 30 (Nat.le_of_ble_eq_true rfl) (fun _ => rfl) (Nat.le_of_ble_eq_true rfl) (16 * i + j) rfl (by omega) dX9_raiseHill_193 (fun H locs hH hS => ?_)
                            refine lv_iinc (v := nI (j + 1)) (lv' := [(7, .int (nI (j + 1))), (5, .int (y5 + (0 : Int32))), (9, .int (rzV h rd (mx (ad1 i r) (ad1 j c)) (σ1' 30 (16 * i + j)))), (8, .int (nI (mx (ad1 i r) (ad1 j c)))), (0, .ref (G.2.1 29)), (1, .int x), (2, .int y), (3, .int w), (4, .int h), (6, .int (nI i))]) hx hb dX9_raiseHill_194 hl (k := 9) rfl (nI_1 _) (by decide) rfl (fun ls hl => ?_)
                            refine lv_goto (tgt := 53) hx hb dX9_raiseHill_197 (by decide) ?_
                            exact ih53 (j + 1) (y5 + (0 : Int32)) (u2 σ1' 30 (16 * i + j) (rzV h rd (mx (ad1 i r) (ad1 j c)) (σ1' 30 (16 * i + j)))) _ _ ls (by omega) (by omega) (by rw [show i * C + (j + 1) = i * C + j + 1 from rfl, rzS_t c59 c101, hz']; show _ = nI (_ + _); rw [if_pos (by have q := c168; rw [hσ', up_s] at q; exact q)]; simp) (by rw [show i * C + (j + 1) = i * C + j + 1 from rfl, rzS_t c59 c101, hσ', u2_up, up_s]) hH hS (lv_sub hl [4, 5, 6, 7, 8, 1, 9, 0] rfl)
                        · refine lv_sipush (v := 999) hx hb dX9_raiseHill_141 (by decide) ?_
                          refine r_top (show ((999) : Int32) = rzV h rd (mx (ad1 i r) (ad1 j c)) (σ1' 30 (16 * i + j)) from (rzV_hi c138)) ?_
                          refine lv_goto (tgt := 149) hx hb dX9_raiseHill_144 (by decide) ?_
                          refine lv_istore (lv' := [(9, .int (rzV h rd (mx (ad1 i r) (ad1 j c)) (σ1' 30 (16 * i + j)))), (8, .int (nI (mx (ad1 i r) (ad1 j c)))), (0, .ref (G.2.1 29)), (1, .int x), (2, .int y), (3, .int w), (4, .int h), (5, .int y5), (6, .int (nI i)), (7, .int (nI j))]) hx hb dX9_raiseHill_149 hl (by decide) rfl (fun ls hl => ?_)
                          refine lv_iload hx hb dX9_raiseHill_151 (lv_at hl 7 rfl) ?_
                          refine lv_iload hx hb dX9_raiseHill_153 (lv_at hl 0 rfl) ?_
                          refine lv_aload_n hx hb dX9_raiseHill_155 rfl (lv_at hl 2 rfl) ?_
                          refine r_get CF hK hH 29 (Nat.le_of_ble_eq_true rfl) rfl rfl JX9 9 (by decide) K3 rfl dX9_raiseHill_156 ?_
                          refine lv_bipush (v := 16) hx hb dX9_raiseHill_159 (by decide) ?_
                          refine lv_iload hx hb dX9_raiseHill_161 (lv_at hl 8 rfl) ?_
                          refine lv_imul hx hb dX9_raiseHill_163 ?_
                          refine lv_iload hx hb dX9_raiseHill_164 (lv_at hl 9 rfl) ?_
                          refine lv_iadd hx hb dX9_raiseHill_166 ?_
                          refine r_top (show ((((16 : Int32) * (nI i)) + (nI j)) : Int32) = nI (16 * i + j) from ix16b i j) ?_
                          refine r_iald CF hK hH 30 (Nat.le_of_ble_eq_true rfl) rfl (Nat.le_of_ble_eq_true rfl) (16 * i + j) rfl (by omega) dX9_raiseHill_167 ?_
                          refine lv_icmp_ne (tgt := 175) hx hb dX9_raiseHill_168 (by decide) (fun c168 => ?_) (fun c168 => ?_)
                          · refine lv_iconst (v := 1) hx hb dX9_raiseHill_175 (by decide) ?_
                            refine lv_iadd hx hb dX9_raiseHill_176 ?_
                            refine lv_istore (lv' := [(5, .int (y5 + (1 : Int32))), (9, .int (rzV h rd (mx (ad1 i r) (ad1 j c)) (σ1' 30 (16 * i + j)))), (8, .int (nI (mx (ad1 i r) (ad1 j c)))), (0, .ref (G.2.1 29)), (1, .int x), (2, .int y), (3, .int w), (4, .int h), (6, .int (nI i)), (7, .int (nI j))]) hx hb dX9_raiseHill_177 hl (by decide) rfl (fun ls hl => ?_)
                            refine lv_aload_n hx hb dX9_raiseHill_179 rfl (lv_at hl 3 rfl) ?_
                            refine r_get CF hK hH 29 (Nat.le_of_ble_eq_true rfl) rfl rfl JX9 9 (by decide) K3 rfl dX9_raiseHill_180 ?_
                            refine lv_bipush (v := 16) hx hb dX9_raiseHill_183 (by decide) ?_
                            refine lv_iload hx hb dX9_raiseHill_185 (lv_at hl 8 rfl) ?_
                            refine lv_imul hx hb dX9_raiseHill_187 ?_
                            refine lv_iload hx hb dX9_raiseHill_188 (lv_at hl 9 rfl) ?_
                            refine lv_iadd hx hb dX9_raiseHill_190 ?_
                            refine r_top (show ((((16 : Int32) * (nI i)) + (nI j)) : Int32) = nI (16 * i + j) from ix16b i j) ?_
                            refine lv_iload hx hb dX9_raiseHill_191 (lv_at hl 1 rfl) ?_
                            refine r_iast CF hK hH hS 30 (Nat.le_of_ble_eq_true rfl) (fun _ => rfl) (Nat.le_of_ble_eq_true rfl) (16 * i + j) rfl (by omega) dX9_raiseHill_193 (fun H locs hH hS => ?_)
                            refine lv_iinc (v := nI (j + 1)) (lv' := [(7, .int (nI (j + 1))), (5, .int (y5 + (1 : Int32))), (9, .int (rzV h rd (mx (ad1 i r) (ad1 j c)) (σ1' 30 (16 * i + j)))), (8, .int (nI (mx (ad1 i r) (ad1 j c)))), (0, .ref (G.2.1 29)), (1, .int x), (2, .int y), (3, .int w), (4, .int h), (6, .int (nI i))]) hx hb dX9_raiseHill_194 hl (k := 9) rfl (nI_1 _) (by decide) rfl (fun ls hl => ?_)
                            refine lv_goto (tgt := 53) hx hb dX9_raiseHill_197 (by decide) ?_
                            exact ih53 (j + 1) (y5 + (1 : Int32)) (u2 σ1' 30 (16 * i + j) (rzV h rd (mx (ad1 i r) (ad1 j c)) (σ1' 30 (16 * i + j)))) _ _ ls (by omega) (by omega) (by rw [show i * C + (j + 1) = i * C + j + 1 from rfl, rzS_t c59 c101, hz']; show _ = nI (_ + _); rw [if_neg (fun q => c168 (by rw [hσ', up_s]; exact q))]; exact nI_1 _) (by rw [show i * C + (j + 1) = i * C + j + 1 from rfl, rzS_t c59 c101, hσ', u2_up, up_s]) hH hS (lv_sub hl [4, 5, 6, 7, 8, 1, 9, 0] rfl)
                          · refine lv_iconst (v := 0) hx hb dX9_raiseHill_171 (by decide) ?_
                            refine lv_goto (tgt := 176) hx hb dX9_raiseHill_172 (by decide) ?_
                            refine lv_iadd hx hb dX9_raiseHill_176 ?_
                            refine lv_istore (lv' := [(5, .int (y5 + (0 : Int32))), (9, .int (rzV h rd (mx (ad1 i r) (ad1 j c)) (σ1' 30 (16 * i + j)))), (8, .int (nI (mx (ad1 i r) (ad1 j c)))), (0, .ref (G.2.1 29)), (1, .int x), (2, .int y), (3, .int w), (4, .int h), (6, .int (nI i)), (7, .int (nI j))]) hx hb dX9_raiseHill_177 hl (by decide) rfl (fun ls hl => ?_)
                            refine lv_aload_n hx hb dX9_raiseHill_179 rfl (lv_at hl 3 rfl) ?_
                            refine r_get CF hK hH 29 (Nat.le_of_ble_eq_true rfl) rfl rfl JX9 9 (by decide) K3 rfl dX9_raiseHill_180 ?_
                            refine lv_bipush (v := 16) hx hb dX9_raiseHill_183 (by decide) ?_
                            refine lv_iload hx hb dX9_raiseHill_185 (lv_at hl 8 rfl) ?_
                            refine lv_imul hx hb dX9_raiseHill_187 ?_
                            refine lv_iload hx hb dX9_raiseHill_188 (lv_at hl 9 rfl) ?_
                            refine lv_iadd hx hb dX9_raiseHill_190 ?_
                            refine r_top (show ((((16 : Int32) * (nI i)) + (nI j)) : Int32) = nI (16 * i + j) from ix16b i j) ?_
                            refine lv_iload hx hb dX9_raiseHill_191 (lv_at hl 1 rfl) ?_
                            refine r_iast CF hK hH hS 30 (Nat.le_of_ble_eq_true rfl) (fun _ => rfl) (Nat.le_of_ble_eq_true rfl) (16 * i + j) rfl (by omega) dX9_raiseHill_193 (fun H locs hH hS => ?_)
                            refine lv_iinc (v := nI (j + 1)) (lv' := [(7, .int (nI (j + 1))), (5, .int (y5 + (0 : Int32))), (9, .int (rzV h rd (mx (ad1 i r) (ad1 j c)) (σ1' 30 (16 * i + j)))), (8, .int (nI (mx (ad1 i r) (ad1 j c)))), (0, .ref (G.2.1 29)), (1, .int x), (2, .int y), (3, .int w), (4, .int h), (6, .int (nI i))]) hx hb dX9_raiseHill_194 hl (k := 9) rfl (nI_1 _) (by decide) rfl (fun ls hl => ?_)
                            refine lv_goto (tgt := 53) hx hb dX9_raiseHill_197 (by decide) ?_
                            exact ih53 (j + 1) (y5 + (0 : Int32)) (u2 σ1' 30 (16 * i + j) (rzV h rd (mx (ad1 i r) (ad1 j c)) (σ1' 30 (16 * i + j)))) _ _ ls (by omega) (by omega) (by rw [show i * C + (j + 1) = i * C + j + 1 from rfl, rzS_t c59 c101, hz']; show _ = nI (_ + _); rw [if_pos (by have q := c168; rw [hσ', up_s] at q; exact q)]; simp) (by rw [show i * C + (j + 1) = i * C + j + 1 from rfl, rzS_t c59 c101, hσ', u2_up, up_s]) hH hS (lv_sub hl [4, 5, 6, 7, 8, 1, 9, 0] rfl)
              exact lp53 (C + 1) 0 x5 σ1 _ _ ls (by omega) (by omega) (by exact hz) (by exact hσ) hH hS (lv_sub hl [1, 2, 3, 4, 5, 6, 7, 0] rfl)
        exact lp41 (R + 1) 0 (0 : Int32) σ _ _ ls (by omega) (by omega) (by rw [Nat.zero_mul]; rfl) (by rw [Nat.zero_mul]; exact (up_id σ 30).symm) hH hS (lv_sub hl [2, 3, 4, 5, 6, 1, 0] rfl)
      · refine lv_bipush (v := (-4)) hx hb dX9_raiseHill_32 (by decide) ?_
        exact r_iret CF hr hlk hH hS dX9_raiseHill_34 ⟨by simp [aHill, c6, c17, c29], by simp [c6, c17, c29]⟩
  · refine lv_iconst (v := (-1)) hx hb dX9_raiseHill_9 (by decide) ?_
    exact r_iret CF hr hlk hH hS dX9_raiseHill_10 ⟨by simp [aHill, c6], by simp [c6]⟩
