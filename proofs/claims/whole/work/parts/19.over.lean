def ovS (σ : Sg) (x y z : Int32) : Sg := u2 (u2 (u2 σ 25 0 x) 25 1 y) 25 2 z
theorem ovS_n (σ : Sg) (x y z : Int32) {k : Nat} (h : k ≠ 25) : ovS σ x y z k = σ k := by unfold ovS; rw [u2_n _ _ _ h, u2_n _ _ _ h, u2_n _ _ _ h]
theorem ovS_2 (σ : Sg) (x y z x' y' z' : Int32) : ovS (ovS σ x y z) x' y' z' = ovS σ x' y' z' := by
  funext k f
  by_cases hk : k = 25
  · subst hk
    by_cases h0 : f = 0
    · subst h0; rfl
    by_cases h1 : f = 1
    · subst h1; rfl
    by_cases h2 : f = 2
    · subst h2; rfl
    unfold ovS
    rw [u2_sn _ _ _ h2, u2_sn _ _ _ h1, u2_sn _ _ _ h0, u2_sn _ _ _ h2, u2_sn _ _ _ h1, u2_sn _ _ _ h0, u2_sn _ _ _ h2, u2_sn _ _ _ h1, u2_sn _ _ _ h0]
  · rw [ovS_n _ _ _ _ hk, ovS_n _ _ _ _ hk, ovS_n _ _ _ _ hk]
theorem cntB (p : Nat → Bool) (a : Nat) : nI (cnt p a) + b2i (p a) = nI (cnt p (a + 1)) := by
  cases h : p a with
  | true => rw [cnt_t h]; exact nI_1 _
  | false => rw [cnt_f h]; simp [b2i]
theorem pct_nI {a b c : Nat} (ha : a < 2 ^ 20) (hb : b < 2 ^ 20) : quo (nI c * 100) (if nI b < nI a then nI b else nI a) = pct c a b := by
  have e : (if nI b < nI a then nI b else nI a) = nI (mn2 a b) := by
    unfold mn2
    by_cases h : b < a
    · rw [if_pos ((nI_ltI (by omega) (by omega)).mpr h), if_neg (by omega)]
    · rw [if_neg (fun q => h ((nI_ltI (by omega) (by omega)).mp q))]
      by_cases h2 : a < b
      · rw [if_pos h2]
      · rw [if_neg h2]; congr 1; omega
  have hm : mn2 a b < 2 ^ 20 := by unfold mn2; split <;> omega
  rw [e, show nI c * 100 = nI (c * 100) from pk_mul c 100]
  unfold quo pct
  by_cases h : mn2 a b = 0
  · rw [if_pos h, h]; rfl
  · rw [if_neg h, if_neg (nI_nle (by omega) (by omega))]

set_option maxRecDepth 100000 in
set_option maxHeartbeats 4000000 in
theorem c_X2_clear (l : Launch) (G : Gm) (σ : Sg)  : Met l yX2_clear wsX2_clear (rmO 0 0) (PP G [.ref (G.2.1 25)] σ) (QV G (VV (ovS σ 0 0 0))) 0 0 (fr G) := by
  refine r_start (cc := cX2_clear) (maxL := 1) (ret := none) (by decide) rfl (Nat.le_of_ble_eq_true rfl) ?_
  intro pz ez sz mz below meth cz ls CF hr hlk hK hH hS hl
  have CF : CallFix pz mz cz cX2_clear 1 sz (List.toArray [.ref (G.2.1 25)]) wsX2_clear RX2 := CF
  have hx := CF.1
  have hb := CF.2.1
  have hown := CF.2.2.2.1
  have hts := CF.2.2.2.2
  have hl : lv_has ls 1 [(0, .ref (G.2.1 25))] := hl
  have K1 := hts _ (List.mem_of_getElem? (i := 1) rfl)
  have K2 := hts _ (List.mem_of_getElem? (i := 2) rfl)
  have K3 := hts _ (List.mem_of_getElem? (i := 3) rfl)
  have JX2 : ∀ w ∈ wsX20, w ∈ wsX2_clear := in_r _ [4, 5, 6] (by decide +kernel)
  refine lv_aload_n hx hb dX2_clear_0 rfl (lv_at hl 0 rfl) ?_
  refine lv_iconst (v := 0) hx hb dX2_clear_1 (by decide) ?_
  refine r_put CF hK hH hS 25 (Nat.le_of_ble_eq_true rfl) rfl rfl JX2 tyX2 tyX2_ok nmX2 0 (by decide) K1 rfl (by decide +kernel) (Nat.le_of_ble_eq_true rfl) rfl dX2_clear_2 (fun H locs hH hS => ?_)
  refine lv_aload_n hx hb dX2_clear_5 rfl (lv_at hl 0 rfl) ?_
  refine lv_iconst (v := 0) hx hb dX2_clear_6 (by decide) ?_
  refine r_put CF hK hH hS 25 (Nat.le_of_ble_eq_true rfl) rfl rfl JX2 tyX2 tyX2_ok nmX2 1 (by decide) K2 rfl (by decide +kernel) (Nat.le_of_ble_eq_true rfl) rfl dX2_clear_7 (fun H locs hH hS => ?_)
  refine lv_aload_n hx hb dX2_clear_10 rfl (lv_at hl 0 rfl) ?_
  refine lv_iconst (v := 0) hx hb dX2_clear_11 (by decide) ?_
  refine r_put CF hK hH hS 25 (Nat.le_of_ble_eq_true rfl) rfl rfl JX2 tyX2 tyX2_ok nmX2 2 (by decide) K3 rfl (by decide +kernel) (Nat.le_of_ble_eq_true rfl) rfl dX2_clear_12 (fun H locs hH hS => ?_)
  exact r_vret CF hr hlk hH hS dX2_clear_15 rfl

set_option maxRecDepth 100000 in
set_option maxHeartbeats 4000000 in
theorem c_X2_countCell (l : Launch) (G : Gm) (σ : Sg) (a b : Bool) : Met l yX2_countCell wsX2_countCell (rmO 0 0) (PP G [.ref (G.2.1 25), .int (b2i a), .int (b2i b)] σ) (QV G (VV (ovS σ (σ 25 0 + b2i a) (σ 25 1 + b2i b) (σ 25 2 + b2i (a && b))))) 0 0 (fr G) := by
  refine r_start (cc := cX2_countCell) (maxL := 3) (ret := none) (by decide) rfl (Nat.le_of_ble_eq_true rfl) ?_
  intro pz ez sz mz below meth cz ls CF hr hlk hK hH hS hl
  have CF : CallFix pz mz cz cX2_countCell 3 sz (List.toArray [.ref (G.2.1 25), .int (b2i a), .int (b2i b)]) wsX2_countCell RX2 := CF
  have hx := CF.1
  have hb := CF.2.1
  have hown := CF.2.2.2.1
  have hts := CF.2.2.2.2
  have hl : lv_has ls 3 [(0, .ref (G.2.1 25)), (1, .int (b2i a)), (2, .int (b2i b))] := hl
  have K1 := hts _ (List.mem_of_getElem? (i := 1) rfl)
  have K2 := hts _ (List.mem_of_getElem? (i := 2) rfl)
  have K3 := hts _ (List.mem_of_getElem? (i := 3) rfl)
  have JX2 : ∀ w ∈ wsX20, w ∈ wsX2_countCell := in_r _ [4, 5, 6] (by decide +kernel)
  refine lv_aload_n hx hb dX2_countCell_0 rfl (lv_at hl 0 rfl) ?_
  refine lv_dup hx hb dX2_countCell_1 rfl ?_
  refine r_get CF hK hH 25 (Nat.le_of_ble_eq_true rfl) rfl rfl JX2 0 (by decide) K1 rfl dX2_countCell_2 ?_
  refine lv_iload_n hx hb dX2_countCell_5 rfl (lv_at hl 1 rfl) ?_
  refine r_ifeqB (tgt := 13) hx hb dX2_countCell_6 (by decide) (fun c6 => ?_) (fun c6 => ?_)
  · refine lv_iconst (v := 0) hx hb dX2_countCell_13 (by decide) ?_
    refine lv_iadd hx hb dX2_countCell_14 ?_
    refine r_put CF hK hH hS 25 (Nat.le_of_ble_eq_true rfl) rfl rfl JX2 tyX2 tyX2_ok nmX2 0 (by decide) K1 rfl (by decide +kernel) (Nat.le_of_ble_eq_true rfl) rfl dX2_countCell_15 (fun H locs hH hS => ?_)
    refine lv_aload_n hx hb dX2_countCell_18 rfl (lv_at hl 0 rfl) ?_
    refine lv_dup hx hb dX2_countCell_19 rfl ?_
    refine r_get CF hK hH 25 (Nat.le_of_ble_eq_true rfl) rfl rfl JX2 1 (by decide) K2 rfl dX2_countCell_20 ?_
    refine r_top (show ((u2 σ 25 0 ((σ 25 0) + (0 : Int32))) 25 1 : Int32) = σ 25 1 from rfl) ?_
    refine lv_iload_n hx hb dX2_countCell_23 rfl (lv_at hl 2 rfl) ?_
    refine r_ifeqB (tgt := 31) hx hb dX2_countCell_24 (by decide) (fun c24 => ?_) (fun c24 => ?_)
    · refine lv_iconst (v := 0) hx hb dX2_countCell_31 (by decide) ?_
      refine lv_iadd hx hb dX2_countCell_32 ?_
      refine r_put CF hK hH hS 25 (Nat.le_of_ble_eq_true rfl) rfl rfl JX2 tyX2 tyX2_ok nmX2 1 (by decide) K2 rfl (by decide +kernel) (Nat.le_of_ble_eq_true rfl) rfl dX2_countCell_33 (fun H locs hH hS => ?_)
      refine lv_aload_n hx hb dX2_countCell_36 rfl (lv_at hl 0 rfl) ?_
      refine lv_dup hx hb dX2_countCell_37 rfl ?_
      refine r_get CF hK hH 25 (Nat.le_of_ble_eq_true rfl) rfl rfl JX2 2 (by decide) K3 rfl dX2_countCell_38 ?_
      refine r_top (show ((u2 (u2 σ 25 0 ((σ 25 0) + (0 : Int32))) 25 1 ((σ 25 1) + (0 : Int32))) 25 2 : Int32) = σ 25 2 from rfl) ?_
      refine lv_iload_n hx hb dX2_countCell_41 rfl (lv_at hl 1 rfl) ?_
      refine r_ifeqB (tgt := 53) hx hb dX2_countCell_42 (by decide) (fun c42 => ?_) (fun c42 => ?_)
      · refine lv_iconst (v := 0) hx hb dX2_countCell_53 (by decide) ?_
        refine lv_iadd hx hb dX2_countCell_54 ?_
        refine r_put CF hK hH hS 25 (Nat.le_of_ble_eq_true rfl) rfl rfl JX2 tyX2 tyX2_ok nmX2 2 (by decide) K3 rfl (by decide +kernel) (Nat.le_of_ble_eq_true rfl) rfl dX2_countCell_55 (fun H locs hH hS => ?_)
        exact r_vret CF hr hlk hH hS dX2_countCell_58 (by first | (simp only [c6, c24, c42, Bool.and_self, Bool.and_true, Bool.true_and, Bool.and_false, Bool.false_and]; rfl) | (rw [c6] at c42; cases c42; done) | (rw [c24] at c46; cases c46; done))
      · refine lv_iload_n hx hb dX2_countCell_45 rfl (lv_at hl 2 rfl) ?_
        refine r_ifeqB (tgt := 53) hx hb dX2_countCell_46 (by decide) (fun c46 => ?_) (fun c46 => ?_)
        · refine lv_iconst (v := 0) hx hb dX2_countCell_53 (by decide) ?_
          refine lv_iadd hx hb dX2_countCell_54 ?_
          refine r_put CF hK hH hS 25 (Nat.le_of_ble_eq_true rfl) rfl rfl JX2 tyX2 tyX2_ok nmX2 2 (by decide) K3 rfl (by decide +kernel) (Nat.le_of_ble_eq_true rfl) rfl dX2_countCell_55 (fun H locs hH hS => ?_)
          exact r_vret CF hr hlk hH hS dX2_countCell_58 (by first | (simp only [c6, c24, c42, c46, Bool.and_self, Bool.and_true, Bool.true_and, Bool.and_false, Bool.false_and]; rfl) | (rw [c6] at c42; cases c42; done) | (rw [c24] at c46; cases c46; done))
        · refine lv_iconst (v := 1) hx hb dX2_countCell_49 (by decide) ?_
          refine lv_goto (tgt := 54) hx hb dX2_countCell_50 (by decide) ?_
          refine lv_iadd hx hb dX2_countCell_54 ?_
          refine r_put CF hK hH hS 25 (Nat.le_of_ble_eq_true rfl) rfl rfl JX2 tyX2 tyX2_ok nmX2 2 (by decide) K3 rfl (by decide +kernel) (Nat.le_of_ble_eq_true rfl) rfl dX2_countCell_55 (fun H locs hH hS => ?_)
          exact r_vret CF hr hlk hH hS dX2_countCell_58 (by first | (simp only [c6, c24, c42, c46, Bool.and_self, Bool.and_true, Bool.true_and, Bool.and_false, Bool.false_and]; rfl) | (rw [c6] at c42; cases c42; done) | (rw [c24] at c46; cases c46; done))
    · refine lv_iconst (v := 1) hx hb dX2_countCell_27 (by decide) ?_
      refine lv_goto (tgt := 32) hx hb dX2_countCell_28 (by decide) ?_
      refine lv_iadd hx hb dX2_countCell_32 ?_
      refine r_put CF hK hH hS 25 (Nat.le_of_ble_eq_true rfl) rfl rfl JX2 tyX2 tyX2_ok nmX2 1 (by decide) K2 rfl (by decide +kernel) (Nat.le_of_ble_eq_true rfl) rfl dX2_countCell_33 (fun H locs hH hS => ?_)
      refine lv_aload_n hx hb dX2_countCell_36 rfl (lv_at hl 0 rfl) ?_
      refine lv_dup hx hb dX2_countCell_37 rfl ?_
      refine r_get CF hK hH 25 (Nat.le_of_ble_eq_true rfl) rfl rfl JX2 2 (by decide) K3 rfl dX2_countCell_38 ?_
      refine r_top (show ((u2 (u2 σ 25 0 ((σ 25 0) + (0 : Int32))) 25 1 ((σ 25 1) + (1 : Int32))) 25 2 : Int32) = σ 25 2 from rfl) ?_
      refine lv_iload_n hx hb dX2_countCell_41 rfl (lv_at hl 1 rfl) ?_
      refine r_ifeqB (tgt := 53) hx hb dX2_countCell_42 (by decide) (fun c42 => ?_) (fun c42 => ?_)
      · refine lv_iconst (v := 0) hx hb dX2_countCell_53 (by decide) ?_
        refine lv_iadd hx hb dX2_countCell_54 ?_
        refine r_put CF hK hH hS 25 (Nat.le_of_ble_eq_true rfl) rfl rfl JX2 tyX2 tyX2_ok nmX2 2 (by decide) K3 rfl (by decide +kernel) (Nat.le_of_ble_eq_true rfl) rfl dX2_countCell_55 (fun H locs hH hS => ?_)
        exact r_vret CF hr hlk hH hS dX2_countCell_58 (by first | (simp only [c6, c24, c42, Bool.and_self, Bool.and_true, Bool.true_and, Bool.and_false, Bool.false_and]; rfl) | (rw [c6] at c42; cases c42; done) | (rw [c24] at c46; cases c46; done))
      · refine lv_iload_n hx hb dX2_countCell_45 rfl (lv_at hl 2 rfl) ?_
        refine r_ifeqB (tgt := 53) hx hb dX2_countCell_46 (by decide) (fun c46 => ?_) (fun c46 => ?_)
        · refine lv_iconst (v := 0) hx hb dX2_countCell_53 (by decide) ?_
          refine lv_iadd hx hb dX2_countCell_54 ?_
          refine r_put CF hK hH hS 25 (Nat.le_of_ble_eq_true rfl) rfl rfl JX2 tyX2 tyX2_ok nmX2 2 (by decide) K3 rfl (by decide +kernel) (Nat.le_of_ble_eq_true rfl) rfl dX2_countCell_55 (fun H locs hH hS => ?_)
          exact r_vret CF hr hlk hH hS dX2_countCell_58 (by first | (simp only [c6, c24, c42, c46, Bool.and_self, Bool.and_true, Bool.true_and, Bool.and_false, Bool.false_and]; rfl) | (rw [c6] at c42; cases c42; done) | (rw [c24] at c46; cases c46; done))
        · refine lv_iconst (v := 1) hx hb dX2_countCell_49 (by decide) ?_
          refine lv_goto (tgt := 54) hx hb dX2_countCell_50 (by decide) ?_
          refine lv_iadd hx hb dX2_countCell_54 ?_
          refine r_put CF hK hH hS 25 (Nat.le_of_ble_eq_true rfl) rfl rfl JX2 tyX2 tyX2_ok nmX2 2 (by decide) K3 rfl (by decide +kernel) (Nat.le_of_ble_eq_true rfl) rfl dX2_countCell_55 (fun H locs hH hS => ?_)
          exact r_vret CF hr hlk hH hS dX2_countCell_58 (by first | (simp only [c6, c24, c42, c46, Bool.and_self, Bool.and_true, Bool.true_and, Bool.and_false, Bool.false_and]; rfl) | (rw [c6] at c42; cases c42; done) | (rw [c24] at c46; cases c46; done))
  · refine lv_iconst (v := 1) hx hb dX2_countCell_9 (by decide) ?_
    refine lv_goto (tgt := 14) hx hb dX2_countCell_10 (by decide) ?_
    refine lv_iadd hx hb dX2_countCell_14 ?_
    refine r_put CF hK hH hS 25 (Nat.le_of_ble_eq_true rfl) rfl rfl JX2 tyX2 tyX2_ok nmX2 0 (by decide) K1 rfl (by decide +kernel) (Nat.le_of_ble_eq_true rfl) rfl dX2_countCell_15 (fun H locs hH hS => ?_)
    refine lv_aload_n hx hb dX2_countCell_18 rfl (lv_at hl 0 rfl) ?_
    refine lv_dup hx hb dX2_countCell_19 rfl ?_
    refine r_get CF hK hH 25 (Nat.le_of_ble_eq_true rfl) rfl rfl JX2 1 (by decide) K2 rfl dX2_countCell_20 ?_
    refine r_top (show ((u2 σ 25 0 ((σ 25 0) + (1 : Int32))) 25 1 : Int32) = σ 25 1 from rfl) ?_
    refine lv_iload_n hx hb dX2_countCell_23 rfl (lv_at hl 2 rfl) ?_
    refine r_ifeqB (tgt := 31) hx hb dX2_countCell_24 (by decide) (fun c24 => ?_) (fun c24 => ?_)
    · refine lv_iconst (v := 0) hx hb dX2_countCell_31 (by decide) ?_
      refine lv_iadd hx hb dX2_countCell_32 ?_
      refine r_put CF hK hH hS 25 (Nat.le_of_ble_eq_true rfl) rfl rfl JX2 tyX2 tyX2_ok nmX2 1 (by decide) K2 rfl (by decide +kernel) (Nat.le_of_ble_eq_true rfl) rfl dX2_countCell_33 (fun H locs hH hS => ?_)
      refine lv_aload_n hx hb dX2_countCell_36 rfl (lv_at hl 0 rfl) ?_
      refine lv_dup hx hb dX2_countCell_37 rfl ?_
      refine r_get CF hK hH 25 (Nat.le_of_ble_eq_true rfl) rfl rfl JX2 2 (by decide) K3 rfl dX2_countCell_38 ?_
      refine r_top (show ((u2 (u2 σ 25 0 ((σ 25 0) + (1 : Int32))) 25 1 ((σ 25 1) + (0 : Int32))) 25 2 : Int32) = σ 25 2 from rfl) ?_
      refine lv_iload_n hx hb dX2_countCell_41 rfl (lv_at hl 1 rfl) ?_
      refine r_ifeqB (tgt := 53) hx hb dX2_countCell_42 (by decide) (fun c42 => ?_) (fun c42 => ?_)
      · refine lv_iconst (v := 0) hx hb dX2_countCell_53 (by decide) ?_
        refine lv_iadd hx hb dX2_countCell_54 ?_
        refine r_put CF hK hH hS 25 (Nat.le_of_ble_eq_true rfl) rfl rfl JX2 tyX2 tyX2_ok nmX2 2 (by decide) K3 rfl (by decide +kernel) (Nat.le_of_ble_eq_true rfl) rfl dX2_countCell_55 (fun H locs hH hS => ?_)
        exact r_vret CF hr hlk hH hS dX2_countCell_58 (by first | (simp only [c6, c24, c42, Bool.and_self, Bool.and_true, Bool.true_and, Bool.and_false, Bool.false_and]; rfl) | (rw [c6] at c42; cases c42; done) | (rw [c24] at c46; cases c46; done))
      · refine lv_iload_n hx hb dX2_countCell_45 rfl (lv_at hl 2 rfl) ?_
        refine r_ifeqB (tgt := 53) hx hb dX2_countCell_46 (by decide) (fun c46 => ?_) (fun c46 => ?_)
        · refine lv_iconst (v := 0) hx hb dX2_countCell_53 (by decide) ?_
          refine lv_iadd hx hb dX2_countCell_54 ?_
          refine r_put CF hK hH hS 25 (Nat.le_of_ble_eq_true rfl) rfl rfl JX2 tyX2 tyX2_ok nmX2 2 (by decide) K3 rfl (by decide +kernel) (Nat.le_of_ble_eq_true rfl) rfl dX2_countCell_55 (fun H locs hH hS => ?_)
          exact r_vret CF hr hlk hH hS dX2_countCell_58 (by first | (simp only [c6, c24, c42, c46, Bool.and_self, Bool.and_true, Bool.true_and, Bool.and_false, Bool.false_and]; rfl) | (rw [c6] at c42; cases c42; done) | (rw [c24] at c46; cases c46; done))
        · refine lv_iconst (v := 1) hx hb dX2_countCell_49 (by decide) ?_
          refine lv_goto (tgt := 54) hx hb dX2_countCell_50 (by decide) ?_
          refine lv_iadd hx hb dX2_countCell_54 ?_
          refine r_put CF hK hH hS 25 (Nat.le_of_ble_eq_true rfl) rfl rfl JX2 tyX2 tyX2_ok nmX2 2 (by decide) K3 rfl (by decide +kernel) (Nat.le_of_ble_eq_true rfl) rfl dX2_countCell_55 (fun H locs hH hS => ?_)
          exact r_vret CF hr hlk hH hS dX2_countCell_58 (by first | (simp only [c6, c24, c42, c46, Bool.and_self, Bool.and_true, Bool.true_and, Bool.and_false, Bool.false_and]; rfl) | (rw [c6] at c42; cases c42; done) | (rw [c24] at c46; cases c46; done))
    · refine lv_iconst (v := 1) hx hb dX2_countCell_27 (by decide) ?_
      refine lv_goto (tgt := 32) hx hb dX2_countCell_28 (by decide) ?_
      refine lv_iadd hx hb dX2_countCell_32 ?_
      refine r_put CF hK hH hS 25 (Nat.le_of_ble_eq_true rfl) rfl rfl JX2 tyX2 tyX2_ok nmX2 1 (by decide) K2 rfl (by decide +kernel) (Nat.le_of_ble_eq_true rfl) rfl dX2_countCell_33 (fun H locs hH hS => ?_)
      refine lv_aload_n hx hb dX2_countCell_36 rfl (lv_at hl 0 rfl) ?_
      refine lv_dup hx hb dX2_countCell_37 rfl ?_
      refine r_get CF hK hH 25 (Nat.le_of_ble_eq_true rfl) rfl rfl JX2 2 (by decide) K3 rfl dX2_countCell_38 ?_
      refine r_top (show ((u2 (u2 σ 25 0 ((σ 25 0) + (1 : Int32))) 25 1 ((σ 25 1) + (1 : Int32))) 25 2 : Int32) = σ 25 2 from rfl) ?_
      refine lv_iload_n hx hb dX2_countCell_41 rfl (lv_at hl 1 rfl) ?_
      refine r_ifeqB (tgt := 53) hx hb dX2_countCell_42 (by decide) (fun c42 => ?_) (fun c42 => ?_)
      · refine lv_iconst (v := 0) hx hb dX2_countCell_53 (by decide) ?_
        refine lv_iadd hx hb dX2_countCell_54 ?_
        refine r_put CF hK hH hS 25 (Nat.le_of_ble_eq_true rfl) rfl rfl JX2 tyX2 tyX2_ok nmX2 2 (by decide) K3 rfl (by decide +kernel) (Nat.le_of_ble_eq_true rfl) rfl dX2_countCell_55 (fun H locs hH hS => ?_)
        exact r_vret CF hr hlk hH hS dX2_countCell_58 (by first | (simp only [c6, c24, c42, Bool.and_self, Bool.and_true, Bool.true_and, Bool.and_false, Bool.false_and]; rfl) | (rw [c6] at c42; cases c42; done) | (rw [c24] at c46; cases c46; done))
      · refine lv_iload_n hx hb dX2_countCell_45 rfl (lv_at hl 2 rfl) ?_
        refine r_ifeqB (tgt := 53) hx hb dX2_countCell_46 (by decide) (fun c46 => ?_) (fun c46 => ?_)
        · refine lv_iconst (v := 0) hx hb dX2_countCell_53 (by decide) ?_
          refine lv_iadd hx hb dX2_countCell_54 ?_
          refine r_put CF hK hH hS 25 (Nat.le_of_ble_eq_true rfl) rfl rfl JX2 tyX2 tyX2_ok nmX2 2 (by decide) K3 rfl (by decide +kernel) (Nat.le_of_ble_eq_true rfl) rfl dX2_countCell_55 (fun H locs hH hS => ?_)
          exact r_vret CF hr hlk hH hS dX2_countCell_58 (by first | (simp only [c6, c24, c42, c46, Bool.and_self, Bool.and_true, Bool.true_and, Bool.and_false, Bool.false_and]; rfl) | (rw [c6] at c42; cases c42; done) | (rw [c24] at c46; cases c46; done))
        · refine lv_iconst (v := 1) hx hb dX2_countCell_49 (by decide) ?_
          refine lv_goto (tgt := 54) hx hb dX2_countCell_50 (by decide) ?_
          refine lv_iadd hx hb dX2_countCell_54 ?_
          refine r_put CF hK hH hS 25 (Nat.le_of_ble_eq_true rfl) rfl rfl JX2 tyX2 tyX2_ok nmX2 2 (by decide) K3 rfl (by decide +kernel) (Nat.le_of_ble_eq_true rfl) rfl dX2_countCell_55 (fun H locs hH hS => ?_)
          exact r_vret CF hr hlk hH hS dX2_countCell_58 (by first | (simp only [c6, c24, c42, c46, Bool.and_self, Bool.and_true, Bool.true_and, Bool.and_false, Bool.false_and]; rfl) | (rw [c6] at c42; cases c42; done) | (rw [c24] at c46; cases c46; done))

set_option maxRecDepth 100000 in
set_option maxHeartbeats 4000000 in
theorem c_X2_percent (l : Launch) (G : Gm) (σ : Sg)  : Met l yX2_percent wsX2_percent (rmO 1 21) (PP G [.ref (G.2.1 25)] σ) (QI G (RV (quo (σ 25 2 * 100) (if σ 25 1 < σ 25 0 then σ 25 1 else σ 25 0)) σ)) 0 0 (fr G) := by
  refine r_start (cc := cX2_percent) (maxL := 1) (ret := (some .int)) (by decide) rfl (Nat.le_of_ble_eq_true rfl) ?_
  intro pz ez sz mz below meth cz ls CF hr hlk hK hH hS hl
  have CF : CallFix pz mz cz cX2_percent 1 sz (List.toArray [.ref (G.2.1 25)]) wsX2_percent RX2 := CF
  have hx := CF.1
  have hb := CF.2.1
  have hown := CF.2.2.2.1
  have hts := CF.2.2.2.2
  have hl : lv_has ls 1 [(0, .ref (G.2.1 25))] := hl
  have K1 := hts _ (List.mem_of_getElem? (i := 1) rfl)
  have K2 := hts _ (List.mem_of_getElem? (i := 2) rfl)
  have K3 := hts _ (List.mem_of_getElem? (i := 3) rfl)
  have K4 := hts _ (List.mem_of_getElem? (i := 4) rfl)
  have K5 := hts _ (List.mem_of_getElem? (i := 5) rfl)
  have K6 := hts _ (List.mem_of_getElem? (i := 6) rfl)
  have K7 := hts _ (List.mem_of_getElem? (i := 7) rfl)
  have K8 := hts _ (List.mem_of_getElem? (i := 8) rfl)
  have K9 := hts _ (List.mem_of_getElem? (i := 9) rfl)
  have JX2 : ∀ w ∈ wsX20, w ∈ wsX2_percent := in_r _ [11, 12, 13] (by decide +kernel)
  refine lv_aload_n hx hb dX2_percent_0 rfl (lv_at hl 0 rfl) ?_
  refine r_get CF hK hH 25 (Nat.le_of_ble_eq_true rfl) rfl rfl JX2 2 (by decide) K1 rfl dX2_percent_1 ?_
  refine lv_bipush (v := 100) hx hb dX2_percent_4 (by decide) ?_
  refine lv_imul hx hb dX2_percent_6 ?_
  refine lv_aload_n hx hb dX2_percent_7 rfl (lv_at hl 0 rfl) ?_
  refine r_get CF hK hH 25 (Nat.le_of_ble_eq_true rfl) rfl rfl JX2 0 (by decide) K2 rfl dX2_percent_8 ?_
  refine lv_aload_n hx hb dX2_percent_11 rfl (lv_at hl 0 rfl) ?_
  refine r_get CF hK hH 25 (Nat.le_of_ble_eq_true rfl) rfl rfl JX2 1 (by decide) K3 rfl dX2_percent_12 ?_
  refine va_mmin hx hb (by rw [CF.2.2.1]; exact hl.1.symm) hown K4 K5 K6 K7 (Nat.le_of_ble_eq_true rfl) (Nat.le_of_ble_eq_true rfl) (Nat.le_of_ble_eq_true rfl) (Nat.le_of_ble_eq_true rfl) dX2_percent_15 ?_
  refine r_cR hS (r_runN (n := 2) (As := [.int ((σ 25 2) * (100 : Int32)), .int (if (σ 25 1) < (σ 25 0) then (σ 25 1) else (σ 25 0))]) (rest := []) CF hK hH (c_X8_quotient l G σ ((σ 25 2) * (100 : Int32)) (if (σ 25 1) < (σ 25 0) then (σ 25 1) else (σ 25 0))) gX2_percent_X8_quotient_n25 rfl rfl rfl hK.2.2.2.2.1 K9 K8 (by decide +kernel) ⟨⟨Nat.le_of_ble_eq_true rfl, Nat.le_of_ble_eq_true rfl⟩, Nat.le_of_ble_eq_true rfl, Nat.le_of_ble_eq_true rfl⟩ rfl hl.1 rfl (Nat.le_of_ble_eq_true rfl) dX2_percent_18) (fun H locs hH hS => ?_)
  exact r_iret CF hr hlk hH hS dX2_percent_21 ⟨rfl, rfl⟩

theorem ov_end {σ : Sg} {a b c : Nat} (ha : a < 2 ^ 20) (hb : b < 2 ^ 20) : quo (ovS σ (nI a) (nI b) (nI c) 25 2 * 100) (if ovS σ (nI a) (nI b) (nI c) 25 1 < ovS σ (nI a) (nI b) (nI c) 25 0 then ovS σ (nI a) (nI b) (nI c) 25 1 else ovS σ (nI a) (nI b) (nI c) 25 0) = pct c a b := pct_nI ha hb
theorem cnt_lt20 (p : Nat → Bool) {R C : Nat} (hR : R ≤ 10) (hC : C ≤ 16) : cnt p (R * C) < 2 ^ 20 := by
  have h1 := cnt_le p (R * C)
  have h2 : R * C ≤ 10 * 16 := Nat.mul_le_mul (by omega) hC
  omega

theorem ov_id (σ : Sg) : ovS σ (σ 25 0) (σ 25 1) (σ 25 2) = σ := by
  have h0 : u2 σ 25 0 (σ 25 0) = σ := by unfold u2; rw [up_id, up_id]
  have h1 : u2 σ 25 1 (σ 25 1) = σ := by unfold u2; rw [up_id, up_id]
  have h2 : u2 σ 25 2 (σ 25 2) = σ := by unfold u2; rw [up_id, up_id]
  unfold ovS
  rw [h0, h1, h2]

set_option maxRecDepth 100000 in
set_option maxHeartbeats 4000000 in
theorem c_X8_forwardOverlap (l : Launch) (G : Gm) (σ : Sg) (R C n : Nat) (sq : Nat → S4) (hA : CA σ R C n sq) (x p : Int32) : Met l yX8_forwardOverlap wsX8_forwardOverlap (rmO 3 84) (PP G [.ref (G.2.1 20), .int x, .int p] σ) (QI G (fun r σ' => r = aFwd R C (σ 22) (cmC σ) n sq x p ∧ ∃ a b c, σ' = ovS σ a b c)) 0 0 (fr G) := by
  refine r_start (cc := cX8_forwardOverlap) (maxL := 8) (ret := (some .int)) (by decide) rfl (Nat.le_of_ble_eq_true rfl) ?_
  intro pz ez sz mz below meth cz ls CF hr hlk hK hH hS hl
  have CF : CallFix pz mz cz cX8_forwardOverlap 8 sz (List.toArray [.ref (G.2.1 20), .int x, .int p]) wsX8_forwardOverlap RX8 := CF
  have hx := CF.1
  have hb := CF.2.1
  have hown := CF.2.2.2.1
  have hts := CF.2.2.2.2
  have hl : lv_has ls 8 [(0, .ref (G.2.1 20)), (1, .int x), (2, .int p)] := hl
  have K1 := hts _ (List.mem_of_getElem? (i := 1) rfl)
  have K2 := hts _ (List.mem_of_getElem? (i := 2) rfl)
  have K3 := hts _ (List.mem_of_getElem? (i := 3) rfl)
  have K4 := hts _ (List.mem_of_getElem? (i := 4) rfl)
  have K5 := hts _ (List.mem_of_getElem? (i := 5) rfl)
  have K6 := hts _ (List.mem_of_getElem? (i := 6) rfl)
  have K7 := hts _ (List.mem_of_getElem? (i := 7) rfl)
  have JX5 : ∀ w ∈ wsX50, w ∈ wsX8_forwardOverlap := in_r _ [97, 98, 99, 100] (by decide +kernel)
  have JX7 : ∀ w ∈ wsX70, w ∈ wsX8_forwardOverlap := in_r _ [94, 95, 96] (by decide +kernel)
  have JX8 : ∀ w ∈ wsX80, w ∈ wsX8_forwardOverlap := in_r _ [87, 88, 89, 90, 91, 92, 93] (by decide +kernel)
  obtain ⟨hR, hC, hR3, hR10, hC4, hC16, hh, hL⟩ := hA
  have hn : σ (16 + 0) 0 = nI n := hL.1
  have hn8 := hL.2.1
  refine lv_aload_n hx hb dX8_forwardOverlap_0 rfl (lv_at hl 0 rfl) ?_
  refine r_get CF hK hH 20 (Nat.le_of_ble_eq_true rfl) rfl rfl JX8 3 (by decide) K1 rfl dX8_forwardOverlap_1 ?_
  refine lv_iload_n hx hb dX8_forwardOverlap_4 rfl (lv_at hl 1 rfl) ?_
  refine r_callq hS (r_runV (n := 1) (As := [.int x]) (rest := []) CF hK hH (c_X6_find l G σ 0 (by decide) n hn hn8 x) gX8_forwardOverlap_X6_find rfl rfl rfl rfl (by decide +kernel) ⟨⟨Nat.le_of_ble_eq_true rfl, Nat.le_of_ble_eq_true rfl⟩, Nat.le_of_ble_eq_true rfl, Nat.le_of_ble_eq_true rfl⟩ (16 + 0) rfl (by omega) (we_l G (by decide) _) rfl rfl hl.1 rfl (Nat.le_of_ble_eq_true rfl) dX8_forwardOverlap_5) (fun rq5 σq5 H locs hq hH hS => ?_)
  obtain ⟨hσ1, hq⟩ := hq
  rw [hσ1] at hH
  rcases hq with ⟨hn5, hr1⟩ | ⟨j5, hj5, hi5, hr1⟩
  · rw [hr1]
    rw [show va_rf none = Value.null from rfl]
    have hin5 := inB_f hn5
    refine lv_astore_nN (lv' := [(3, .null), (0, .ref (G.2.1 20)), (1, .int x), (2, .int p)]) hx hb dX8_forwardOverlap_8 rfl hl (by decide) rfl (fun ls hl => ?_)
    refine lv_aload_nN hx hb dX8_forwardOverlap_9 rfl (lv_at hl 0 rfl) ?_
    refine lv_ifnonnullN hx hb dX8_forwardOverlap_10 ?_
    refine lv_bipush (v := (-2)) hx hb dX8_forwardOverlap_13 (by decide) ?_
    exact r_iret CF hr hlk hH hS dX8_forwardOverlap_15 ⟨by simp [aFwd, hin5], σ 25 0, σ 25 1, σ 25 2, (ov_id σ).symm⟩
  · rw [hr1]
    rw [show va_rf (some (G.2.1 (8 * 0 + j5))) = Value.ref (G.2.1 (8 * 0 + j5)) from rfl]
    have hin5 := inB_t hj5 hi5 (by omega)
    have hN5 := N_of hi5 (by omega)
    refine lv_astore_n (lv' := [(3, .ref (G.2.1 (8 * 0 + j5))), (0, .ref (G.2.1 20)), (1, .int x), (2, .int p)]) hx hb dX8_forwardOverlap_8 rfl hl (by decide) rfl (fun ls hl => ?_)
    refine lv_aload_n hx hb dX8_forwardOverlap_9 rfl (lv_at hl 0 rfl) ?_
    refine lv_ifnonnull (tgt := 16) hx hb dX8_forwardOverlap_10 (by decide) ?_
    refine lv_aload_n hx hb dX8_forwardOverlap_16 rfl (lv_at hl 0 rfl) ?_
    refine lv_iload_n hx hb dX8_forwardOverlap_17 rfl (lv_at hl 3 rfl) ?_
    refine r_cR hS (r_runV (n := 1) (As := [.int p]) (rest := []) CF hK hH (c_X5_hasPhoto l G σ (8 * 0 + j5) (by omega) (sq j5) (hL.2.2 j5 (by omega)) p) gX8_forwardOverlap_X5_hasPhoto rfl rfl rfl rfl (by decide +kernel) ⟨⟨Nat.le_of_ble_eq_true rfl, Nat.le_of_ble_eq_true rfl⟩, Nat.le_of_ble_eq_true rfl, Nat.le_of_ble_eq_true rfl⟩ (8 * 0 + j5) rfl (by omega) (we_s G (by omega) _) rfl rfl hl.1 rfl (Nat.le_of_ble_eq_true rfl) dX8_forwardOverlap_18) (fun H locs hH hS => ?_)
    refine r_ifeqB (tgt := 34) hx hb dX8_forwardOverlap_21 (by decide) (fun c21 => ?_) (fun c21 => ?_)
    · have c21 : inB p (phF (sq j5)) = false := c21
      refine lv_bipush (v := (-3)) hx hb dX8_forwardOverlap_34 (by decide) ?_
      exact r_iret CF hr hlk hH hS dX8_forwardOverlap_36 ⟨by simp [aFwd, hin5, hN5, c21], σ 25 0, σ 25 1, σ 25 2, (ov_id σ).symm⟩
    · obtain ⟨pn, hpn, ep⟩ := inB_of (show inB p (phF (sq j5)) = true from c21) (by have := phF_le (hL.2.2 j5 (by omega)).2.2.2.2; omega)
      have epN := N_of ep (by have := phF_le (hL.2.2 j5 (by omega)).2.2.2.2; omega)
      have c21 : inB p (phF (sq j5)) = true := c21
      refine lv_aload_n hx hb dX8_forwardOverlap_24 rfl (lv_at hl 0 rfl) ?_
      refine lv_iload_n hx hb dX8_forwardOverlap_25 rfl (lv_at hl 3 rfl) ?_
      refine lv_iconst (v := 1) hx hb dX8_forwardOverlap_26 (by decide) ?_
      refine lv_iadd hx hb dX8_forwardOverlap_27 ?_
      refine r_cR hS (r_runV (n := 1) (As := [.int (p + (1 : Int32))]) (rest := []) CF hK hH (c_X5_hasPhoto l G σ (8 * 0 + j5) (by omega) (sq j5) (hL.2.2 j5 (by omega)) (p + (1 : Int32))) gX8_forwardOverlap_X5_hasPhoto rfl rfl rfl rfl (by decide +kernel) ⟨⟨Nat.le_of_ble_eq_true rfl, Nat.le_of_ble_eq_true rfl⟩, Nat.le_of_ble_eq_true rfl, Nat.le_of_ble_eq_true rfl⟩ (8 * 0 + j5) rfl (by omega) (we_s G (by omega) _) rfl rfl hl.1 rfl (Nat.le_of_ble_eq_true rfl) dX8_forwardOverlap_28) (fun H locs hH hS => ?_)
      refine r_ifneB (tgt := 37) hx hb dX8_forwardOverlap_31 (by decide) (fun c31 => ?_) (fun c31 => ?_)
      · have c31 : inB (p + 1) (phF (sq j5)) = true := c31
        obtain ⟨pm, hpm, epm⟩ := inB_of c31 (by have := phF_le (hL.2.2 j5 (by omega)).2.2.2.2; omega)
        have hq := (hL.2.2 j5 (by omega)).2.2.2.2
        have hpl := phF_le hq
        have epq : pm = pn + 1 := ((nI_eq (by omega) (by omega)).mp (by rw [← epm, ep]; exact (nI_1 pn).symm)).symm
        subst epq
        have hcol := ph_col hq hpn
        have hcol2 := ph_col hq hpm
        refine lv_aload_n hx hb dX8_forwardOverlap_37 rfl (lv_at hl 0 rfl) ?_
        refine lv_iload_n hx hb dX8_forwardOverlap_38 rfl (lv_at hl 3 rfl) ?_
        refine r_top (show (p : Int32) = nI pn from ep) ?_
        refine r_cR hS (r_runV (n := 1) (As := [.int (nI pn)]) (rest := []) CF hK hH (c_X5_columnOf l G σ (8 * 0 + j5) (by omega) (sq j5) (hL.2.2 j5 (by omega)) pn) gX8_forwardOverlap_X5_columnOf rfl rfl rfl rfl (by decide +kernel) ⟨⟨Nat.le_of_ble_eq_true rfl, Nat.le_of_ble_eq_true rfl⟩, Nat.le_of_ble_eq_true rfl, Nat.le_of_ble_eq_true rfl⟩ (8 * 0 + j5) rfl (by omega) (we_s G (by omega) _) rfl rfl hl.1 rfl (Nat.le_of_ble_eq_true rfl) dX8_forwardOverlap_39) (fun H locs hH hS => ?_)
        refine lv_istore (lv' := [(4, .int (nI ((sq j5).2.1 + pn * (sq j5).2.2.2))), (3, .ref (G.2.1 (8 * 0 + j5))), (0, .ref (G.2.1 20)), (1, .int x), (2, .int p)]) hx hb dX8_forwardOverlap_42 hl (by decide) rfl (fun ls hl => ?_)
        refine lv_aload_n hx hb dX8_forwardOverlap_44 rfl (lv_at hl 1 rfl) ?_
        refine lv_iload_n hx hb dX8_forwardOverlap_45 rfl (lv_at hl 4 rfl) ?_
        refine lv_iconst (v := 1) hx hb dX8_forwardOverlap_46 (by decide) ?_
        refine lv_iadd hx hb dX8_forwardOverlap_47 ?_
        refine r_top (show ((p + (1 : Int32)) : Int32) = nI (pn + 1) from (by rw [ep]; exact nI_1 pn)) ?_
        refine r_cR hS (r_runV (n := 1) (As := [.int (nI (pn + 1))]) (rest := []) CF hK hH (c_X5_columnOf l G σ (8 * 0 + j5) (by omega) (sq j5) (hL.2.2 j5 (by omega)) (pn + 1)) gX8_forwardOverlap_X5_columnOf rfl rfl rfl rfl (by decide +kernel) ⟨⟨Nat.le_of_ble_eq_true rfl, Nat.le_of_ble_eq_true rfl⟩, Nat.le_of_ble_eq_true rfl, Nat.le_of_ble_eq_true rfl⟩ (8 * 0 + j5) rfl (by omega) (we_s G (by omega) _) rfl rfl hl.1 rfl (Nat.le_of_ble_eq_true rfl) dX8_forwardOverlap_48) (fun H locs hH hS => ?_)
        refine lv_istore (lv' := [(5, .int (nI ((sq j5).2.1 + (pn + 1) * (sq j5).2.2.2))), (4, .int (nI ((sq j5).2.1 + pn * (sq j5).2.2.2))), (3, .ref (G.2.1 (8 * 0 + j5))), (0, .ref (G.2.1 20)), (1, .int x), (2, .int p)]) hx hb dX8_forwardOverlap_51 hl (by decide) rfl (fun ls hl => ?_)
        refine lv_aload_n hx hb dX8_forwardOverlap_53 rfl (lv_at hl 3 rfl) ?_
        refine r_get CF hK hH 20 (Nat.le_of_ble_eq_true rfl) rfl rfl JX8 4 (by decide) K2 rfl dX8_forwardOverlap_54 ?_
        refine r_cV hS (r_runV (n := 0) (As := []) (rest := []) CF hK hH (c_X2_clear l G σ) gX8_forwardOverlap_X2_clear rfl rfl rfl rfl (by decide +kernel) ⟨⟨Nat.le_of_ble_eq_true rfl, Nat.le_of_ble_eq_true rfl⟩, Nat.le_of_ble_eq_true rfl, Nat.le_of_ble_eq_true rfl⟩ 25 rfl (Nat.le_of_ble_eq_true rfl) rfl rfl rfl hl.1 rfl (Nat.le_of_ble_eq_true rfl) dX8_forwardOverlap_57) (fun H locs hH hS => ?_)
        refine lv_iconst (v := 0) hx hb dX8_forwardOverlap_60 (by decide) ?_
        refine lv_istore (lv' := [(6, .int (0 : Int32)), (5, .int (nI ((sq j5).2.1 + (pn + 1) * (sq j5).2.2.2))), (4, .int (nI ((sq j5).2.1 + pn * (sq j5).2.2.2))), (3, .ref (G.2.1 (8 * 0 + j5))), (0, .ref (G.2.1 20)), (1, .int x), (2, .int p)]) hx hb dX8_forwardOverlap_61 hl (by decide) rfl (fun ls hl => ?_)
        have lp63 : ∀ (fu : Nat) (i : Nat) (σ1 : Sg) (H : Heap) (locs : List Loc) (ls : Array Slot), (R + 1 ≤ i + fu) → (i ≤ R) → (σ1 = ovS σ (nI (cnt (fpP (σ 22) (cmC σ) (sq j5) pn C) (i * C))) (nI (cnt (fpP (σ 22) (cmC σ) (sq j5) (pn + 1) C) (i * C))) (nI (cnt (fun z => (fpP (σ 22) (cmC σ) (sq j5) pn C) z && (fpP (σ 22) (cmC σ) (sq j5) (pn + 1) C) z) (i * C)))) → Hp G σ1 H → va_S (fr G) sz.heap H locs → lv_has ls 8 [(0, .ref (G.2.1 20)), (3, .ref (G.2.1 (8 * 0 + j5))), (4, .int (nI ((sq j5).2.1 + pn * (sq j5).2.2.2))), (5, .int (nI ((sq j5).2.1 + (pn + 1) * (sq j5).2.2.2))), (6, .int (nI i))] → W pz l ez (rmO 3 84) sz mz (List.toArray [.ref (G.2.1 20), .int x, .int p]) below meth cz H locs 0 0 (MQ below (QI G (fun r σ' => r = aFwd R C (σ 22) (cmC σ) n sq x p ∧ ∃ a b c, σ' = ovS σ a b c)) (List.toArray [.ref (G.2.1 20), .int x, .int p]) sz 0 0 (fr G)) (F0 mz 63 ls []) := by
          intro fu
          induction fu with
          | zero => intros; omega
          | succ fu ih63 =>
            intro i σ1 H locs ls hf hi hσ hH hS hl
            refine lv_iload hx hb dX8_forwardOverlap_63 (lv_at hl 4 rfl) ?_
            refine lv_aload_n hx hb dX8_forwardOverlap_65 rfl (lv_at hl 0 rfl) ?_
            refine r_get CF hK hH 20 (Nat.le_of_ble_eq_true rfl) rfl rfl JX8 0 (by decide) K3 rfl dX8_forwardOverlap_66 ?_
            refine r_get CF hK hH 21 (Nat.le_of_ble_eq_true rfl) rfl rfl JX7 0 (by decide) K4 rfl dX8_forwardOverlap_69 ?_
            refine r_top (show (σ1 21 0 : Int32) = nI R from (by rw [hσ]; exact hR)) ?_
            refine lv_icmp_ge (tgt := 151) hx hb dX8_forwardOverlap_72 (by decide) (fun c72 => ?_) (fun c72 => ?_)
            · have c72 : R ≤ i := (nI_leI (a := R) (b := i) (by omega) (by omega)).mp c72
              refine lv_aload_n hx hb dX8_forwardOverlap_151 rfl (lv_at hl 0 rfl) ?_
              refine r_get CF hK hH 20 (Nat.le_of_ble_eq_true rfl) rfl rfl JX8 4 (by decide) K2 rfl dX8_forwardOverlap_152 ?_
              refine r_cR hS (r_runV (n := 0) (As := []) (rest := []) CF hK hH (c_X2_percent l G σ1) gX8_forwardOverlap_X2_percent rfl rfl rfl rfl (by decide +kernel) ⟨⟨Nat.le_of_ble_eq_true rfl, Nat.le_of_ble_eq_true rfl⟩, Nat.le_of_ble_eq_true rfl, Nat.le_of_ble_eq_true rfl⟩ 25 rfl (Nat.le_of_ble_eq_true rfl) rfl rfl rfl hl.1 rfl (Nat.le_of_ble_eq_true rfl) dX8_forwardOverlap_155) (fun H locs hH hS => ?_)
              exact r_iret CF hr hlk hH hS dX8_forwardOverlap_158 ⟨by have e : i = R := (by omega); subst e; rw [hσ, ov_end (cnt_lt20 _ hR10 hC16) (cnt_lt20 _ hR10 hC16)]; simp [aFwd, hin5, hN5, epN, c21, c31], _, _, _, hσ⟩
            · have c72 : i < R := Nat.lt_of_not_le (fun zq => c72 ((nI_leI (a := R) (b := i) (by omega) (by omega)).mpr zq))
              refine lv_iconst (v := 0) hx hb dX8_forwardOverlap_75 (by decide) ?_
              refine lv_istore (lv' := [(7, .int (0 : Int32)), (0, .ref (G.2.1 20)), (3, .ref (G.2.1 (8 * 0 + j5))), (4, .int (nI ((sq j5).2.1 + pn * (sq j5).2.2.2))), (5, .int (nI ((sq j5).2.1 + (pn + 1) * (sq j5).2.2.2))), (6, .int (nI i))]) hx hb dX8_forwardOverlap_76 hl (by decide) rfl (fun ls hl => ?_)
              have lp78 : ∀ (fv : Nat) (j : Nat) (σ1' : Sg) (H : Heap) (locs : List Loc) (ls : Array Slot), (C + 1 ≤ j + fv) → (j ≤ C) → (σ1' = ovS σ (nI (cnt (fpP (σ 22) (cmC σ) (sq j5) pn C) ((i * C + j)))) (nI (cnt (fpP (σ 22) (cmC σ) (sq j5) (pn + 1) C) ((i * C + j)))) (nI (cnt (fun z => (fpP (σ 22) (cmC σ) (sq j5) pn C) z && (fpP (σ 22) (cmC σ) (sq j5) (pn + 1) C) z) ((i * C + j))))) → Hp G σ1' H → va_S (fr G) sz.heap H locs → lv_has ls 8 [(0, .ref (G.2.1 20)), (3, .ref (G.2.1 (8 * 0 + j5))), (4, .int (nI ((sq j5).2.1 + pn * (sq j5).2.2.2))), (5, .int (nI ((sq j5).2.1 + (pn + 1) * (sq j5).2.2.2))), (6, .int (nI i)), (7, .int (nI j))] → W pz l ez (rmO 3 84) sz mz (List.toArray [.ref (G.2.1 20), .int x, .int p]) below meth cz H locs 0 0 (MQ below (QI G (fun r σ' => r = aFwd R C (σ 22) (cmC σ) n sq x p ∧ ∃ a b c, σ' = ovS σ a b c)) (List.toArray [.ref (G.2.1 20), .int x, .int p]) sz 0 0 (fr G)) (F0 mz 78 ls []) := by
                intro fv
                induction fv with
                | zero => intros; omega
                | succ fv ih78 =>
                  intro j σ1' H locs ls hg hj hσ' hH hS hl
                  refine lv_iload hx hb dX8_forwardOverlap_78 (lv_at hl 5 rfl) ?_
                  refine lv_aload_n hx hb dX8_forwardOverlap_80 rfl (lv_at hl 0 rfl) ?_
                  refine r_get CF hK hH 20 (Nat.le_of_ble_eq_true rfl) rfl rfl JX8 0 (by decide) K3 rfl dX8_forwardOverlap_81 ?_
                  refine r_get CF hK hH 21 (Nat.le_of_ble_eq_true rfl) rfl rfl JX7 1 (by decide) K5 rfl dX8_forwardOverlap_84 ?_
                  refine r_top (show (σ1' 21 1 : Int32) = nI C from (by rw [hσ']; exact hC)) ?_
                  refine lv_icmp_ge (tgt := 145) hx hb dX8_forwardOverlap_87 (by decide) (fun c87 => ?_) (fun c87 => ?_)
                  · have c87 : C ≤ j := (nI_leI (a := C) (b := j) (by omega) (by omega)).mp c87
                    refine lv_iinc (v := nI (i + 1)) (lv' := [(6, .int (nI (i + 1))), (0, .ref (G.2.1 20)), (3, .ref (G.2.1 (8 * 0 + j5))), (4, .int (nI ((sq j5).2.1 + pn * (sq j5).2.2.2))), (5, .int (nI ((sq j5).2.1 + (pn + 1) * (sq j5).2.2.2))), (7, .int (nI j))]) hx hb dX8_forwardOverlap_145 hl (k := 4) rfl (nI_1 _) (by decide) rfl (fun ls hl => ?_)
                    refine lv_goto (tgt := 63) hx hb dX8_forwardOverlap_148 (by decide) ?_
                    exact ih63 (i + 1) σ1' _ _ ls (by omega) (by omega) (by have e : (i + 1) * C = i * C + j := (by have e2 : j = C := (by omega); rw [e2, Nat.succ_mul]); rw [e]; exact hσ') hH hS (lv_sub hl [1, 2, 3, 4, 0] rfl)
                  · have c87 : j < C := Nat.lt_of_not_le (fun zq => c87 ((nI_leI (a := C) (b := j) (by omega) (by omega)).mpr zq))
                    refine lv_aload_n hx hb dX8_forwardOverlap_90 rfl (lv_at hl 0 rfl) ?_
                    refine r_get CF hK hH 20 (Nat.le_of_ble_eq_true rfl) rfl rfl JX8 4 (by decide) K2 rfl dX8_forwardOverlap_91 ?_
                    refine lv_aload_n hx hb dX8_forwardOverlap_94 rfl (lv_at hl 0 rfl) ?_
                    refine r_get CF hK hH 20 (Nat.le_of_ble_eq_true rfl) rfl rfl JX8 1 (by decide) K6 rfl dX8_forwardOverlap_95 ?_
                    refine lv_aload_n hx hb dX8_forwardOverlap_98 rfl (lv_at hl 0 rfl) ?_
                    refine r_get CF hK hH 20 (Nat.le_of_ble_eq_true rfl) rfl rfl JX8 0 (by decide) K3 rfl dX8_forwardOverlap_99 ?_
                    refine lv_aload_n hx hb dX8_forwardOverlap_102 rfl (lv_at hl 1 rfl) ?_
                    refine r_get CF hK hH (8 * 0 + j5) (by omega) (we_s G (by omega) _) rfl JX5 0 (by decide) K7 rfl dX8_forwardOverlap_103 ?_
                    refine r_top (show (σ1' (8 * 0 + j5) 0 : Int32) = nI (sq j5).1 from (by rw [hσ', ovS_n _ _ _ _ (by omega)]; exact (hL.2.2 j5 (by omega)).1)) ?_
                    refine lv_iload hx hb dX8_forwardOverlap_106 (lv_at hl 2 rfl) ?_
                    refine lv_iload hx hb dX8_forwardOverlap_108 (lv_at hl 4 rfl) ?_
                    refine lv_iload hx hb dX8_forwardOverlap_110 (lv_at hl 5 rfl) ?_
                    refine r_cR hS (r_runV (n := 5) (As := [.ref (G.2.1 21), .int (nI (sq j5).1), .int (nI ((sq j5).2.1 + pn * (sq j5).2.2.2)), .int (nI i), .int (nI j)]) (rest := [.ref (G.2.1 25)]) CF hK hH (c_X1_sees l G σ1' (sq j5).1 ((sq j5).2.1 + pn * (sq j5).2.2.2) i j hq.1 (by have := hq.2.2.1; omega) (by omega) (by omega) (by rw [hσ']; exact hh)) gX8_forwardOverlap_X1_sees rfl rfl rfl rfl (by decide +kernel) ⟨⟨Nat.le_of_ble_eq_true rfl, Nat.le_of_ble_eq_true rfl⟩, Nat.le_of_ble_eq_true rfl, Nat.le_of_ble_eq_true rfl⟩ 23 rfl (Nat.le_of_ble_eq_true rfl) rfl rfl rfl hl.1 rfl (Nat.le_of_ble_eq_true rfl) dX8_forwardOverlap_112) (fun H locs hH hS => ?_)
                    refine r_top (show (b2i (seesF (σ1' 22) (cmC σ1') (sq j5).1 ((sq j5).2.1 + pn * (sq j5).2.2.2) i j) : Int32) = b2i (seesF (σ 22) (cmC σ) (sq j5).1 ((sq j5).2.1 + pn * (sq j5).2.2.2) i j) from (by rw [hσ']; rfl)) ?_
                    refine lv_aload_n hx hb dX8_forwardOverlap_115 rfl (lv_at hl 0 rfl) ?_
                    refine r_get CF hK hH 20 (Nat.le_of_ble_eq_true rfl) rfl rfl JX8 1 (by decide) K6 rfl dX8_forwardOverlap_116 ?_
                    refine lv_aload_n hx hb dX8_forwardOverlap_119 rfl (lv_at hl 0 rfl) ?_
                    refine r_get CF hK hH 20 (Nat.le_of_ble_eq_true rfl) rfl rfl JX8 0 (by decide) K3 rfl dX8_forwardOverlap_120 ?_
                    refine lv_aload_n hx hb dX8_forwardOverlap_123 rfl (lv_at hl 1 rfl) ?_
                    refine r_get CF hK hH (8 * 0 + j5) (by omega) (we_s G (by omega) _) rfl JX5 0 (by decide) K7 rfl dX8_forwardOverlap_124 ?_
                    refine r_top (show (σ1' (8 * 0 + j5) 0 : Int32) = nI (sq j5).1 from (by rw [hσ', ovS_n _ _ _ _ (by omega)]; exact (hL.2.2 j5 (by omega)).1)) ?_
                    refine lv_iload hx hb dX8_forwardOverlap_127 (lv_at hl 3 rfl) ?_
                    refine lv_iload hx hb dX8_forwardOverlap_129 (lv_at hl 4 rfl) ?_
                    refine lv_iload hx hb dX8_forwardOverlap_131 (lv_at hl 5 rfl) ?_
                    refine r_cR hS (r_runV (n := 5) (As := [.ref (G.2.1 21), .int (nI (sq j5).1), .int (nI ((sq j5).2.1 + (pn + 1) * (sq j5).2.2.2)), .int (nI i), .int (nI j)]) (rest := [.int (b2i (seesF (σ 22) (cmC σ) (sq j5).1 ((sq j5).2.1 + pn * (sq j5).2.2.2) i j)), .ref (G.2.1 25)]) CF hK hH (c_X1_sees l G σ1' (sq j5).1 ((sq j5).2.1 + (pn + 1) * (sq j5).2.2.2) i j hq.1 (by have := hq.2.2.1; omega) (by omega) (by omega) (by rw [hσ']; exact hh)) gX8_forwardOverlap_X1_sees rfl rfl rfl rfl (by decide +kernel) ⟨⟨Nat.le_of_ble_eq_true rfl, Nat.le_of_ble_eq_true rfl⟩, Nat.le_of_ble_eq_true rfl, Nat.le_of_ble_eq_true rfl⟩ 23 rfl (Nat.le_of_ble_eq_true rfl) rfl rfl rfl hl.1 rfl (Nat.le_of_ble_eq_true rfl) dX8_forwardOverlap_133) (fun H locs hH hS => ?_)
                    refine r_top (show (b2i (seesF (σ1' 22) (cmC σ1') (sq j5).1 ((sq j5).2.1 + (pn + 1) * (sq j5).2.2.2) i j) : Int32) = b2i (seesF (σ 22) (cmC σ) (sq j5).1 ((sq j5).2.1 + (pn + 1) * (sq j5).2.2.2) i j) from (by rw [hσ']; rfl)) ?_
                    refine r_cV hS (r_runV (n := 2) (As := [.int (b2i (seesF (σ 22) (cmC σ) (sq j5).1 ((sq j5).2.1 + pn * (sq j5).2.2.2) i j)), .int (b2i (seesF (σ 22) (cmC σ) (sq j5).1 ((sq j5).2.1 + (pn + 1) * (sq j5).2.2.2) i j))]) (rest := []) CF hK hH (c_X2_countCell l G σ1' (seesF (σ 22) (cmC σ) (sq j5).1 ((sq j5).2.1 + pn * (sq j5).2.2.2) i j) (seesF (σ 22) (cmC σ) (sq j5).1 ((sq j5).2.1 + (pn + 1) * (sq j5).2.2.2) i j)) gX8_forwardOverlap_X2_countCell rfl rfl rfl rfl (by decide +kernel) ⟨⟨Nat.le_of_ble_eq_true rfl, Nat.le_of_ble_eq_true rfl⟩, Nat.le_of_ble_eq_true rfl, Nat.le_of_ble_eq_true rfl⟩ 25 rfl (Nat.le_of_ble_eq_true rfl) rfl rfl rfl hl.1 rfl (Nat.le_of_ble_eq_true rfl) dX8_forwardOverlap_136) (fun H locs hH hS => ?_)
                    refine lv_iinc (v := nI (j + 1)) (lv' := [(7, .int (nI (j + 1))), (0, .ref (G.2.1 20)), (3, .ref (G.2.1 (8 * 0 + j5))), (4, .int (nI ((sq j5).2.1 + pn * (sq j5).2.2.2))), (5, .int (nI ((sq j5).2.1 + (pn + 1) * (sq j5).2.2.2))), (6, .int (nI i))]) hx hb dX8_forwardOverlap_139 hl (k := 5) rfl (nI_1 _) (by decide) rfl (fun ls hl => ?_)
                    refine lv_goto (tgt := 78) hx hb dX8_forwardOverlap_142 (by decide) ?_
                    exact ih78 (j + 1) (ovS σ1' (σ1' 25 0 + b2i (seesF (σ 22) (cmC σ) (sq j5).1 ((sq j5).2.1 + pn * (sq j5).2.2.2) i j)) (σ1' 25 1 + b2i (seesF (σ 22) (cmC σ) (sq j5).1 ((sq j5).2.1 + (pn + 1) * (sq j5).2.2.2) i j)) (σ1' 25 2 + b2i ((seesF (σ 22) (cmC σ) (sq j5).1 ((sq j5).2.1 + pn * (sq j5).2.2.2) i j) && (seesF (σ 22) (cmC σ) (sq j5).1 ((sq j5).2.1 + (pn + 1) * (sq j5).2.2.2) i j)))) _ _ ls (by omega) (by omega) (by rw [hσ', ovS_2]; show ovS σ (nI (cnt (fpP (σ 22) (cmC σ) (sq j5) pn C) (i * C + j)) + b2i _) (nI (cnt (fpP (σ 22) (cmC σ) (sq j5) (pn + 1) C) (i * C + j)) + b2i _) (nI (cnt (fun z => (fpP (σ 22) (cmC σ) (sq j5) pn C) z && (fpP (σ 22) (cmC σ) (sq j5) (pn + 1) C) z) (i * C + j)) + b2i _) = _; rw [show i * C + (j + 1) = i * C + j + 1 from rfl, ← cntB (fpP (σ 22) (cmC σ) (sq j5) pn C), ← cntB (fpP (σ 22) (cmC σ) (sq j5) (pn + 1) C), ← cntB (fun z => (fpP (σ 22) (cmC σ) (sq j5) pn C) z && (fpP (σ 22) (cmC σ) (sq j5) (pn + 1) C) z)]; simp only [fpP_at _ _ _ _ c87]) hH hS (lv_sub hl [1, 2, 3, 4, 5, 0] rfl)
              exact lp78 (C + 1) 0 σ1 _ _ ls (by omega) (by omega) (by exact hσ) hH hS (lv_sub hl [1, 2, 3, 4, 5, 0] rfl)
        exact lp63 (R + 1) 0 (ovS σ 0 0 0) _ _ ls (by omega) (by omega) (by rw [Nat.zero_mul]; rfl) hH hS (lv_sub hl [4, 3, 2, 1, 0] rfl)
      · have c31 : inB (p + 1) (phF (sq j5)) = false := c31
        refine lv_bipush (v := (-3)) hx hb dX8_forwardOverlap_34 (by decide) ?_
        exact r_iret CF hr hlk hH hS dX8_forwardOverlap_36 ⟨by simp [aFwd, hin5, hN5, c21, c31], σ 25 0, σ 25 1, σ 25 2, (ov_id σ).symm⟩

theorem VS_ov {σ : Sg} {k : Nat} {q : S4} {x y z : Int32} (h : VS σ k q) (hk : k < 16) : VS (ovS σ x y z) k q := by
  unfold VS at *
  rw [ovS_n _ _ _ _ (by omega)]
  exact h

set_option maxRecDepth 100000 in
set_option maxHeartbeats 4000000 in
theorem c_X8_sideOverlap (l : Launch) (G : Gm) (σ : Sg) (R C n : Nat) (sq : Nat → S4) (hA : CA σ R C n sq) (x y : Int32) : Met l yX8_sideOverlap wsX8_sideOverlap (rmO 4 110) (PP G [.ref (G.2.1 20), .int x, .int y] σ) (QI G (fun r σ' => r = aSide R C (σ 22) (cmC σ) n sq x y ∧ ∃ a b c, σ' = ovS σ a b c)) 0 0 (fr G) := by
  refine r_start (cc := cX8_sideOverlap) (maxL := 7) (ret := (some .int)) (by decide) rfl (Nat.le_of_ble_eq_true rfl) ?_
  intro pz ez sz mz below meth cz ls CF hr hlk hK hH hS hl
  have CF : CallFix pz mz cz cX8_sideOverlap 7 sz (List.toArray [.ref (G.2.1 20), .int x, .int y]) wsX8_sideOverlap RX8 := CF
  have hx := CF.1
  have hb := CF.2.1
  have hown := CF.2.2.2.1
  have hts := CF.2.2.2.2
  have hl : lv_has ls 7 [(0, .ref (G.2.1 20)), (1, .int x), (2, .int y)] := hl
  have K1 := hts _ (List.mem_of_getElem? (i := 1) rfl)
  have K2 := hts _ (List.mem_of_getElem? (i := 2) rfl)
  have K3 := hts _ (List.mem_of_getElem? (i := 3) rfl)
  have K4 := hts _ (List.mem_of_getElem? (i := 4) rfl)
  have K5 := hts _ (List.mem_of_getElem? (i := 5) rfl)
  have K6 := hts _ (List.mem_of_getElem? (i := 6) rfl)
  have JX7 : ∀ w ∈ wsX70, w ∈ wsX8_sideOverlap := in_r _ [94, 95, 96] (by decide +kernel)
  have JX8 : ∀ w ∈ wsX80, w ∈ wsX8_sideOverlap := in_r _ [87, 88, 89, 90, 91, 92, 93] (by decide +kernel)
  obtain ⟨hR, hC, hR3, hR10, hC4, hC16, hh, hL⟩ := hA
  have hn : σ (16 + 0) 0 = nI n := hL.1
  have hn8 := hL.2.1
  refine lv_aload_n hx hb dX8_sideOverlap_0 rfl (lv_at hl 0 rfl) ?_
  refine r_get CF hK hH 20 (Nat.le_of_ble_eq_true rfl) rfl rfl JX8 3 (by decide) K1 rfl dX8_sideOverlap_1 ?_
  refine lv_iload_n hx hb dX8_sideOverlap_4 rfl (lv_at hl 1 rfl) ?_
  refine r_callq hS (r_runV (n := 1) (As := [.int x]) (rest := []) CF hK hH (c_X6_find l G σ 0 (by decide) n hn hn8 x) gX8_sideOverlap_X6_find rfl rfl rfl rfl (by decide +kernel) ⟨⟨Nat.le_of_ble_eq_true rfl, Nat.le_of_ble_eq_true rfl⟩, Nat.le_of_ble_eq_true rfl, Nat.le_of_ble_eq_true rfl⟩ (16 + 0) rfl (by omega) (we_l G (by decide) _) rfl rfl hl.1 rfl (Nat.le_of_ble_eq_true rfl) dX8_sideOverlap_5) (fun rq5 σq5 H locs hq hH hS => ?_)
  obtain ⟨hσ1, hq⟩ := hq
  rw [hσ1] at hH
  rcases hq with ⟨hn5, hr1⟩ | ⟨j5, hj5, hi5, hr1⟩
  · rw [hr1]
    rw [show va_rf none = Value.null from rfl]
    have hin5 := inB_f hn5
    refine lv_astore_nN (lv' := [(3, .null), (0, .ref (G.2.1 20)), (1, .int x), (2, .int y)]) hx hb dX8_sideOverlap_8 rfl hl (by decide) rfl (fun ls hl => ?_)
    refine lv_aload_n hx hb dX8_sideOverlap_9 rfl (lv_at hl 1 rfl) ?_
    refine r_get CF hK hH 20 (Nat.le_of_ble_eq_true rfl) rfl rfl JX8 3 (by decide) K1 rfl dX8_sideOverlap_10 ?_
    refine lv_iload_n hx hb dX8_sideOverlap_13 rfl (lv_at hl 3 rfl) ?_
    refine r_callq hS (r_runV (n := 1) (As := [.int y]) (rest := []) CF hK hH (c_X6_find l G σ 0 (by decide) n hn hn8 y) gX8_sideOverlap_X6_find rfl rfl rfl rfl (by decide +kernel) ⟨⟨Nat.le_of_ble_eq_true rfl, Nat.le_of_ble_eq_true rfl⟩, Nat.le_of_ble_eq_true rfl, Nat.le_of_ble_eq_true rfl⟩ (16 + 0) rfl (by omega) (we_l G (by decide) _) rfl rfl hl.1 rfl (Nat.le_of_ble_eq_true rfl) dX8_sideOverlap_14) (fun rq14 σq14 H locs hq hH hS => ?_)
    obtain ⟨hσ1, hq⟩ := hq
    rw [hσ1] at hH
    rcases hq with ⟨hn14, hr1⟩ | ⟨j14, hj14, hi14, hr1⟩
    · rw [hr1]
      rw [show va_rf none = Value.null from rfl]
      have hin14 := inB_f hn14
      refine lv_astoreN (lv' := [(4, .null), (3, .null), (0, .ref (G.2.1 20)), (1, .int x), (2, .int y)]) hx hb dX8_sideOverlap_17 hl (by decide) rfl (fun ls hl => ?_)
      refine lv_aload_nN hx hb dX8_sideOverlap_19 rfl (lv_at hl 1 rfl) ?_
      refine lv_ifnullN (tgt := 28) hx hb dX8_sideOverlap_20 (by decide) ?_
      refine lv_bipush (v := (-2)) hx hb dX8_sideOverlap_28 (by decide) ?_
      exact r_iret CF hr hlk hH hS dX8_sideOverlap_30 ⟨by simp [aSide, hin5, hin14], σ 25 0, σ 25 1, σ 25 2, (ov_id σ).symm⟩
    · rw [hr1]
      rw [show va_rf (some (G.2.1 (8 * 0 + j14))) = Value.ref (G.2.1 (8 * 0 + j14)) from rfl]
      have hin14 := inB_t hj14 hi14 (by omega)
      have hN14 := N_of hi14 (by omega)
      refine lv_astore (lv' := [(4, .ref (G.2.1 (8 * 0 + j14))), (3, .null), (0, .ref (G.2.1 20)), (1, .int x), (2, .int y)]) hx hb dX8_sideOverlap_17 hl (by decide) rfl (fun ls hl => ?_)
      refine lv_aload_nN hx hb dX8_sideOverlap_19 rfl (lv_at hl 1 rfl) ?_
      refine lv_ifnullN (tgt := 28) hx hb dX8_sideOverlap_20 (by decide) ?_
      refine lv_bipush (v := (-2)) hx hb dX8_sideOverlap_28 (by decide) ?_
      exact r_iret CF hr hlk hH hS dX8_sideOverlap_30 ⟨by simp [aSide, hin5, hin14], σ 25 0, σ 25 1, σ 25 2, (ov_id σ).symm⟩
  · rw [hr1]
    rw [show va_rf (some (G.2.1 (8 * 0 + j5))) = Value.ref (G.2.1 (8 * 0 + j5)) from rfl]
    have hin5 := inB_t hj5 hi5 (by omega)
    have hN5 := N_of hi5 (by omega)
    refine lv_astore_n (lv' := [(3, .ref (G.2.1 (8 * 0 + j5))), (0, .ref (G.2.1 20)), (1, .int x), (2, .int y)]) hx hb dX8_sideOverlap_8 rfl hl (by decide) rfl (fun ls hl => ?_)
    refine lv_aload_n hx hb dX8_sideOverlap_9 rfl (lv_at hl 1 rfl) ?_
    refine r_get CF hK hH 20 (Nat.le_of_ble_eq_true rfl) rfl rfl JX8 3 (by decide) K1 rfl dX8_sideOverlap_10 ?_
    refine lv_iload_n hx hb dX8_sideOverlap_13 rfl (lv_at hl 3 rfl) ?_
    refine r_callq hS (r_runV (n := 1) (As := [.int y]) (rest := []) CF hK hH (c_X6_find l G σ 0 (by decide) n hn hn8 y) gX8_sideOverlap_X6_find rfl rfl rfl rfl (by decide +kernel) ⟨⟨Nat.le_of_ble_eq_true rfl, Nat.le_of_ble_eq_true rfl⟩, Nat.le_of_ble_eq_true rfl, Nat.le_of_ble_eq_true rfl⟩ (16 + 0) rfl (by omega) (we_l G (by decide) _) rfl rfl hl.1 rfl (Nat.le_of_ble_eq_true rfl) dX8_sideOverlap_14) (fun rq14 σq14 H locs hq hH hS => ?_)
    obtain ⟨hσ1, hq⟩ := hq
    rw [hσ1] at hH
    rcases hq with ⟨hn14, hr1⟩ | ⟨j14, hj14, hi14, hr1⟩
    · rw [hr1]
      rw [show va_rf none = Value.null from rfl]
      have hin14 := inB_f hn14
      refine lv_astoreN (lv' := [(4, .null), (3, .ref (G.2.1 (8 * 0 + j5))), (0, .ref (G.2.1 20)), (1, .int x), (2, .int y)]) hx hb dX8_sideOverlap_17 hl (by decide) rfl (fun ls hl => ?_)
      refine lv_aload_n hx hb dX8_sideOverlap_19 rfl (lv_at hl 1 rfl) ?_
      refine lv_ifnull hx hb dX8_sideOverlap_20 ?_
      refine lv_aloadN hx hb dX8_sideOverlap_23 (lv_at hl 0 rfl) ?_
      refine lv_ifnonnullN hx hb dX8_sideOverlap_25 ?_
      refine lv_bipush (v := (-2)) hx hb dX8_sideOverlap_28 (by decide) ?_
      exact r_iret CF hr hlk hH hS dX8_sideOverlap_30 ⟨by simp [aSide, hin5, hin14], σ 25 0, σ 25 1, σ 25 2, (ov_id σ).symm⟩
    · rw [hr1]
      rw [show va_rf (some (G.2.1 (8 * 0 + j14))) = Value.ref (G.2.1 (8 * 0 + j14)) from rfl]
      have hin14 := inB_t hj14 hi14 (by omega)
      have hN14 := N_of hi14 (by omega)
      refine lv_astore (lv' := [(4, .ref (G.2.1 (8 * 0 + j14))), (3, .ref (G.2.1 (8 * 0 + j5))), (0, .ref (G.2.1 20)), (1, .int x), (2, .int y)]) hx hb dX8_sideOverlap_17 hl (by decide) rfl (fun ls hl => ?_)
      refine lv_aload_n hx hb dX8_sideOverlap_19 rfl (lv_at hl 1 rfl) ?_
      refine lv_ifnull hx hb dX8_sideOverlap_20 ?_
      refine lv_aload hx hb dX8_sideOverlap_23 (lv_at hl 0 rfl) ?_
      refine lv_ifnonnull (tgt := 31) hx hb dX8_sideOverlap_25 (by decide) ?_
      refine lv_aload_n hx hb dX8_sideOverlap_31 rfl (lv_at hl 2 rfl) ?_
      refine r_get CF hK hH 20 (Nat.le_of_ble_eq_true rfl) rfl rfl JX8 4 (by decide) K2 rfl dX8_sideOverlap_32 ?_
      refine r_cV hS (r_runV (n := 0) (As := []) (rest := []) CF hK hH (c_X2_clear l G σ) gX8_sideOverlap_X2_clear rfl rfl rfl rfl (by decide +kernel) ⟨⟨Nat.le_of_ble_eq_true rfl, Nat.le_of_ble_eq_true rfl⟩, Nat.le_of_ble_eq_true rfl, Nat.le_of_ble_eq_true rfl⟩ 25 rfl (Nat.le_of_ble_eq_true rfl) rfl rfl rfl hl.1 rfl (Nat.le_of_ble_eq_true rfl) dX8_sideOverlap_35) (fun H locs hH hS => ?_)
      refine lv_iconst (v := 0) hx hb dX8_sideOverlap_38 (by decide) ?_
      refine lv_istore (lv' := [(5, .int (0 : Int32)), (4, .ref (G.2.1 (8 * 0 + j14))), (3, .ref (G.2.1 (8 * 0 + j5))), (0, .ref (G.2.1 20)), (1, .int x), (2, .int y)]) hx hb dX8_sideOverlap_39 hl (by decide) rfl (fun ls hl => ?_)
      have lp41 : ∀ (fu : Nat) (i : Nat) (σ1 : Sg) (H : Heap) (locs : List Loc) (ls : Array Slot), (R + 1 ≤ i + fu) → (i ≤ R) → (σ1 = ovS σ (nI (cnt (ssP (σ 22) (cmC σ) (sq j5) C) (i * C))) (nI (cnt (ssP (σ 22) (cmC σ) (sq j14) C) (i * C))) (nI (cnt (fun z => (ssP (σ 22) (cmC σ) (sq j5) C) z && (ssP (σ 22) (cmC σ) (sq j14) C) z) (i * C)))) → Hp G σ1 H → va_S (fr G) sz.heap H locs → lv_has ls 7 [(0, .ref (G.2.1 20)), (3, .ref (G.2.1 (8 * 0 + j5))), (4, .ref (G.2.1 (8 * 0 + j14))), (5, .int (nI i))] → W pz l ez (rmO 4 110) sz mz (List.toArray [.ref (G.2.1 20), .int x, .int y]) below meth cz H locs 0 0 (MQ below (QI G (fun r σ' => r = aSide R C (σ 22) (cmC σ) n sq x y ∧ ∃ a b c, σ' = ovS σ a b c)) (List.toArray [.ref (G.2.1 20), .int x, .int y]) sz 0 0 (fr G)) (F0 mz 41 ls []) := by
        intro fu
        induction fu with
        | zero => intros; omega
        | succ fu ih41 =>
          intro i σ1 H locs ls hf hi hσ hH hS hl
          refine lv_iload hx hb dX8_sideOverlap_41 (lv_at hl 3 rfl) ?_
          refine lv_aload_n hx hb dX8_sideOverlap_43 rfl (lv_at hl 0 rfl) ?_
          refine r_get CF hK hH 20 (Nat.le_of_ble_eq_true rfl) rfl rfl JX8 0 (by decide) K3 rfl dX8_sideOverlap_44 ?_
          refine r_get CF hK hH 21 (Nat.le_of_ble_eq_true rfl) rfl rfl JX7 0 (by decide) K4 rfl dX8_sideOverlap_47 ?_
          refine r_top (show (σ1 21 0 : Int32) = nI R from (by rw [hσ]; exact hR)) ?_
          refine lv_icmp_ge (tgt := 120) hx hb dX8_sideOverlap_50 (by decide) (fun c50 => ?_) (fun c50 => ?_)
          · have c50 : R ≤ i := (nI_leI (a := R) (b := i) (by omega) (by omega)).mp c50
            refine lv_aload_n hx hb dX8_sideOverlap_120 rfl (lv_at hl 0 rfl) ?_
            refine r_get CF hK hH 20 (Nat.le_of_ble_eq_true rfl) rfl rfl JX8 4 (by decide) K2 rfl dX8_sideOverlap_121 ?_
            refine r_cR hS (r_runV (n := 0) (As := []) (rest := []) CF hK hH (c_X2_percent l G σ1) gX8_sideOverlap_X2_percent rfl rfl rfl rfl (by decide +kernel) ⟨⟨Nat.le_of_ble_eq_true rfl, Nat.le_of_ble_eq_true rfl⟩, Nat.le_of_ble_eq_true rfl, Nat.le_of_ble_eq_true rfl⟩ 25 rfl (Nat.le_of_ble_eq_true rfl) rfl rfl rfl hl.1 rfl (Nat.le_of_ble_eq_true rfl) dX8_sideOverlap_124) (fun H locs hH hS => ?_)
            exact r_iret CF hr hlk hH hS dX8_sideOverlap_127 ⟨by have e : i = R := (by omega); subst e; rw [hσ, ov_end (cnt_lt20 _ hR10 hC16) (cnt_lt20 _ hR10 hC16)]; simp [aSide, hin5, hN5, hin14, hN14], _, _, _, hσ⟩
          · have c50 : i < R := Nat.lt_of_not_le (fun zq => c50 ((nI_leI (a := R) (b := i) (by omega) (by omega)).mpr zq))
            have hh' := hh
            refine lv_iconst (v := 0) hx hb dX8_sideOverlap_53 (by decide) ?_
            refine lv_istore (lv' := [(6, .int (0 : Int32)), (0, .ref (G.2.1 20)), (3, .ref (G.2.1 (8 * 0 + j5))), (4, .ref (G.2.1 (8 * 0 + j14))), (5, .int (nI i))]) hx hb dX8_sideOverlap_54 hl (by decide) rfl (fun ls hl => ?_)
            have lp56 : ∀ (fv : Nat) (j : Nat) (σ1' : Sg) (H : Heap) (locs : List Loc) (ls : Array Slot), (C + 1 ≤ j + fv) → (j ≤ C) → (σ1' = ovS σ (nI (cnt (ssP (σ 22) (cmC σ) (sq j5) C) ((i * C + j)))) (nI (cnt (ssP (σ 22) (cmC σ) (sq j14) C) ((i * C + j)))) (nI (cnt (fun z => (ssP (σ 22) (cmC σ) (sq j5) C) z && (ssP (σ 22) (cmC σ) (sq j14) C) z) ((i * C + j))))) → Hp G σ1' H → va_S (fr G) sz.heap H locs → lv_has ls 7 [(0, .ref (G.2.1 20)), (3, .ref (G.2.1 (8 * 0 + j5))), (4, .ref (G.2.1 (8 * 0 + j14))), (5, .int (nI i)), (6, .int (nI j))] → W pz l ez (rmO 4 110) sz mz (List.toArray [.ref (G.2.1 20), .int x, .int y]) below meth cz H locs 0 0 (MQ below (QI G (fun r σ' => r = aSide R C (σ 22) (cmC σ) n sq x y ∧ ∃ a b c, σ' = ovS σ a b c)) (List.toArray [.ref (G.2.1 20), .int x, .int y]) sz 0 0 (fr G)) (F0 mz 56 ls []) := by
              intro fv
              induction fv with
              | zero => intros; omega
              | succ fv ih56 =>
                intro j σ1' H locs ls hg hj hσ' hH hS hl
                refine lv_iload hx hb dX8_sideOverlap_56 (lv_at hl 4 rfl) ?_
                refine lv_aload_n hx hb dX8_sideOverlap_58 rfl (lv_at hl 0 rfl) ?_
                refine r_get CF hK hH 20 (Nat.le_of_ble_eq_true rfl) rfl rfl JX8 0 (by decide) K3 rfl dX8_sideOverlap_59 ?_
                refine r_get CF hK hH 21 (Nat.le_of_ble_eq_true rfl) rfl rfl JX7 1 (by decide) K5 rfl dX8_sideOverlap_62 ?_
                refine r_top (show (σ1' 21 1 : Int32) = nI C from (by rw [hσ']; exact hC)) ?_
                refine lv_icmp_ge (tgt := 114) hx hb dX8_sideOverlap_65 (by decide) (fun c65 => ?_) (fun c65 => ?_)
                · have c65 : C ≤ j := (nI_leI (a := C) (b := j) (by omega) (by omega)).mp c65
                  refine lv_iinc (v := nI (i + 1)) (lv' := [(5, .int (nI (i + 1))), (0, .ref (G.2.1 20)), (3, .ref (G.2.1 (8 * 0 + j5))), (4, .ref (G.2.1 (8 * 0 + j14))), (6, .int (nI j))]) hx hb dX8_sideOverlap_114 hl (k := 3) rfl (nI_1 _) (by decide) rfl (fun ls hl => ?_)
                  refine lv_goto (tgt := 41) hx hb dX8_sideOverlap_117 (by decide) ?_
                  exact ih41 (i + 1) σ1' _ _ ls (by omega) (by omega) (by have e : (i + 1) * C = i * C + j := (by have e2 : j = C := (by omega); rw [e2, Nat.succ_mul]); rw [e]; exact hσ') hH hS (lv_sub hl [1, 2, 3, 0] rfl)
                · have c65 : j < C := Nat.lt_of_not_le (fun zq => c65 ((nI_leI (a := C) (b := j) (by omega) (by omega)).mpr zq))
                  have hh : hB (σ1' 22) (σ1' 23 0) := by rw [hσ']; exact hh'
                  refine lv_aload_n hx hb dX8_sideOverlap_68 rfl (lv_at hl 0 rfl) ?_
                  refine r_get CF hK hH 20 (Nat.le_of_ble_eq_true rfl) rfl rfl JX8 4 (by decide) K2 rfl dX8_sideOverlap_69 ?_
                  refine lv_aload_n hx hb dX8_sideOverlap_72 rfl (lv_at hl 1 rfl) ?_
                  refine lv_aload_n hx hb dX8_sideOverlap_73 rfl (lv_at hl 0 rfl) ?_
                  refine r_get CF hK hH 20 (Nat.le_of_ble_eq_true rfl) rfl rfl JX8 0 (by decide) K3 rfl dX8_sideOverlap_74 ?_
                  refine lv_aload_n hx hb dX8_sideOverlap_77 rfl (lv_at hl 0 rfl) ?_
                  refine r_get CF hK hH 20 (Nat.le_of_ble_eq_true rfl) rfl rfl JX8 1 (by decide) K6 rfl dX8_sideOverlap_78 ?_
                  refine lv_iload hx hb dX8_sideOverlap_81 (lv_at hl 3 rfl) ?_
                  refine lv_iload hx hb dX8_sideOverlap_83 (lv_at hl 4 rfl) ?_
                  refine r_cR hS (r_runV (n := 4) (As := [.ref (G.2.1 21), .ref (G.2.1 23), .int (nI i), .int (nI j)]) (rest := [.ref (G.2.1 25)]) CF hK hH (c_X5_sees l G σ1' (8 * 0 + j5) (by omega) (sq j5) (by rw [hσ']; exact VS_ov (hL.2.2 j5 (by omega)) (by omega)) i j (by omega) (by omega) hh) gX8_sideOverlap_X5_sees rfl rfl rfl rfl (by decide +kernel) ⟨⟨Nat.le_of_ble_eq_true rfl, Nat.le_of_ble_eq_true rfl⟩, Nat.le_of_ble_eq_true rfl, Nat.le_of_ble_eq_true rfl⟩ (8 * 0 + j5) rfl (by omega) (we_s G (by omega) _) rfl rfl hl.1 rfl (Nat.le_of_ble_eq_true rfl) dX8_sideOverlap_85) (fun H locs hH hS => ?_)
                  refine r_top (show (b2i (ssF (σ1' 22) (cmC σ1') (sq j5) i j) : Int32) = b2i (ssF (σ 22) (cmC σ) (sq j5) i j) from (by rw [hσ']; rfl)) ?_
                  refine lv_aload hx hb dX8_sideOverlap_88 (lv_at hl 2 rfl) ?_
                  refine lv_aload_n hx hb dX8_sideOverlap_90 rfl (lv_at hl 0 rfl) ?_
                  refine r_get CF hK hH 20 (Nat.le_of_ble_eq_true rfl) rfl rfl JX8 0 (by decide) K3 rfl dX8_sideOverlap_91 ?_
                  refine lv_aload_n hx hb dX8_sideOverlap_94 rfl (lv_at hl 0 rfl) ?_
                  refine r_get CF hK hH 20 (Nat.le_of_ble_eq_true rfl) rfl rfl JX8 1 (by decide) K6 rfl dX8_sideOverlap_95 ?_
                  refine lv_iload hx hb dX8_sideOverlap_98 (lv_at hl 3 rfl) ?_
                  refine lv_iload hx hb dX8_sideOverlap_100 (lv_at hl 4 rfl) ?_
                  refine r_cR hS (r_runV (n := 4) (As := [.ref (G.2.1 21), .ref (G.2.1 23), .int (nI i), .int (nI j)]) (rest := [.int (b2i (ssF (σ 22) (cmC σ) (sq j5) i j)), .ref (G.2.1 25)]) CF hK hH (c_X5_sees l G σ1' (8 * 0 + j14) (by omega) (sq j14) (by rw [hσ']; exact VS_ov (hL.2.2 j14 (by omega)) (by omega)) i j (by omega) (by omega) hh) gX8_sideOverlap_X5_sees rfl rfl rfl rfl (by decide +kernel) ⟨⟨Nat.le_of_ble_eq_true rfl, Nat.le_of_ble_eq_true rfl⟩, Nat.le_of_ble_eq_true rfl, Nat.le_of_ble_eq_true rfl⟩ (8 * 0 + j14) rfl (by omega) (we_s G (by omega) _) rfl rfl hl.1 rfl (Nat.le_of_ble_eq_true rfl) dX8_sideOverlap_102) (fun H locs hH hS => ?_)
                  refine r_top (show (b2i (ssF (σ1' 22) (cmC σ1') (sq j14) i j) : Int32) = b2i (ssF (σ 22) (cmC σ) (sq j14) i j) from (by rw [hσ']; rfl)) ?_
                  refine r_cV hS (r_runV (n := 2) (As := [.int (b2i (ssF (σ 22) (cmC σ) (sq j5) i j)), .int (b2i (ssF (σ 22) (cmC σ) (sq j14) i j))]) (rest := []) CF hK hH (c_X2_countCell l G σ1' (ssF (σ 22) (cmC σ) (sq j5) i j) (ssF (σ 22) (cmC σ) (sq j14) i j)) gX8_sideOverlap_X2_countCell rfl rfl rfl rfl (by decide +kernel) ⟨⟨Nat.le_of_ble_eq_true rfl, Nat.le_of_ble_eq_true rfl⟩, Nat.le_of_ble_eq_true rfl, Nat.le_of_ble_eq_true rfl⟩ 25 rfl (Nat.le_of_ble_eq_true rfl) rfl rfl rfl hl.1 rfl (Nat.le_of_ble_eq_true rfl) dX8_sideOverlap_105) (fun H locs hH hS => ?_)
                  refine lv_iinc (v := nI (j + 1)) (lv' := [(6, .int (nI (j + 1))), (0, .ref (G.2.1 20)), (3, .ref (G.2.1 (8 * 0 + j5))), (4, .ref (G.2.1 (8 * 0 + j14))), (5, .int (nI i))]) hx hb dX8_sideOverlap_108 hl (k := 4) rfl (nI_1 _) (by decide) rfl (fun ls hl => ?_)
                  refine lv_goto (tgt := 56) hx hb dX8_sideOverlap_111 (by decide) ?_
                  exact ih56 (j + 1) (ovS σ1' (σ1' 25 0 + b2i (ssF (σ 22) (cmC σ) (sq j5) i j)) (σ1' 25 1 + b2i (ssF (σ 22) (cmC σ) (sq j14) i j)) (σ1' 25 2 + b2i ((ssF (σ 22) (cmC σ) (sq j5) i j) && (ssF (σ 22) (cmC σ) (sq j14) i j)))) _ _ ls (by omega) (by omega) (by rw [hσ', ovS_2]; show ovS σ (nI (cnt (ssP (σ 22) (cmC σ) (sq j5) C) (i * C + j)) + b2i _) (nI (cnt (ssP (σ 22) (cmC σ) (sq j14) C) (i * C + j)) + b2i _) (nI (cnt (fun z => (ssP (σ 22) (cmC σ) (sq j5) C) z && (ssP (σ 22) (cmC σ) (sq j14) C) z) (i * C + j)) + b2i _) = _; rw [show i * C + (j + 1) = i * C + j + 1 from rfl, ← cntB (ssP (σ 22) (cmC σ) (sq j5) C), ← cntB (ssP (σ 22) (cmC σ) (sq j14) C), ← cntB (fun z => (ssP (σ 22) (cmC σ) (sq j5) C) z && (ssP (σ 22) (cmC σ) (sq j14) C) z)]; simp only [ssP_at _ _ _ c65]) hH hS (lv_sub hl [1, 2, 3, 4, 0] rfl)
            exact lp56 (C + 1) 0 σ1 _ _ ls (by omega) (by omega) (by exact hσ) hH hS (lv_sub hl [1, 2, 3, 4, 0] rfl)
      exact lp41 (R + 1) 0 (ovS σ 0 0 0) _ _ ls (by omega) (by omega) (by rw [Nat.zero_mul]; rfl) hH hS (lv_sub hl [3, 2, 1, 0] rfl)
