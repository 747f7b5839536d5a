theorem n16 : (16 : Int32) = nI 16 := rfl
theorem ix16 (r c : Nat) : nI r * (16 : Int32) + nI c = nI (16 * r + c) := by rw [n16, pk_mul, nI_add, Nat.mul_comm]
theorem ix16_lt {r c : Nat} (hr : r < 10) (hc : c < 16) : 16 * r + c < 160 := by omega

set_option maxRecDepth 100000 in
set_option maxHeartbeats 4000000 in
theorem c_X7_heightAt (l : Launch) (G : Gm) (σ : Sg) (r c : Nat) (h1 : r < 10) (h2 : c < 16) : Met l yX7_heightAt wsX7_heightAt (rmO 0 0) (PP G [.ref (G.2.1 21), .int (nI r), .int (nI c)] σ) (QI G (RV (σ 22 (16 * r + c)) σ)) 0 0 (fr G) := by
  refine r_start (cc := cX7_heightAt) (maxL := 4) (ret := (some .int)) (by decide) rfl (Nat.le_of_ble_eq_true rfl) ?_
  intro pz ez sz mz below meth cz ls CF hr hlk hK hH hS hl
  have CF : CallFix pz mz cz cX7_heightAt 4 sz (List.toArray [.ref (G.2.1 21), .int (nI r), .int (nI c)]) wsX7_heightAt RX7 := CF
  have hx := CF.1
  have hb := CF.2.1
  have hown := CF.2.2.2.1
  have hts := CF.2.2.2.2
  have hl : lv_has ls 4 [(0, .ref (G.2.1 21)), (1, .int (nI r)), (2, .int (nI c))] := hl
  have K1 := hts _ (List.mem_of_getElem? (i := 1) rfl)
  have JX7 : ∀ w ∈ wsX70, w ∈ wsX7_heightAt := in_r _ [2, 3, 4] (by decide +kernel)
  refine lv_iload_n hx hb dX7_heightAt_0 rfl (lv_at hl 1 rfl) ?_
  refine lv_bipush (v := 16) hx hb dX7_heightAt_1 (by decide) ?_
  refine lv_imul hx hb dX7_heightAt_3 ?_
  refine lv_iload_n hx hb dX7_heightAt_4 rfl (lv_at hl 2 rfl) ?_
  refine lv_iadd hx hb dX7_heightAt_5 ?_
  refine r_top (show ((((nI r) * (16 : Int32)) + (nI c)) : Int32) = nI (16 * r + c) from ix16 r c) ?_
  refine lv_istore_n (lv' := [(3, .int (nI (16 * r + c))), (0, .ref (G.2.1 21)), (1, .int (nI r)), (2, .int (nI c))]) hx hb dX7_heightAt_6 rfl hl (by decide) rfl (fun ls hl => ?_)
  refine lv_iload_n hx hb dX7_heightAt_7 rfl (lv_at hl 0 rfl) ?_
  refine lv_if_lt (tgt := 29) hx hb dX7_heightAt_8 (by decide) (fun c8 => ?_) (fun c8 => ?_)
  · exact absurd c8 (nI_pos (by omega))
  · refine lv_iload_n hx hb dX7_heightAt_11 rfl (lv_at hl 0 rfl) ?_
    refine lv_aload_n hx hb dX7_heightAt_12 rfl (lv_at hl 1 rfl) ?_
    refine r_get CF hK hH 21 (Nat.le_of_ble_eq_true rfl) rfl rfl JX7 2 (by decide) K1 rfl dX7_heightAt_13 ?_
    refine r_alen (v := 160) CF hK hH 22 (Nat.le_of_ble_eq_true rfl) rfl 0 rfl rfl dX7_heightAt_16 ?_
    refine lv_icmp_ge (tgt := 29) hx hb dX7_heightAt_17 (by decide) (fun c17 => ?_) (fun c17 => ?_)
    · exact absurd c17 (nI_ge (b := 160) (by omega) (by omega))
    · refine lv_aload_n hx hb dX7_heightAt_20 rfl (lv_at hl 1 rfl) ?_
      refine r_get CF hK hH 21 (Nat.le_of_ble_eq_true rfl) rfl rfl JX7 2 (by decide) K1 rfl dX7_heightAt_21 ?_
      refine lv_iload_n hx hb dX7_heightAt_24 rfl (lv_at hl 0 rfl) ?_
      refine r_iald CF hK hH 22 (Nat.le_of_ble_eq_true rfl) rfl (Nat.le_of_ble_eq_true rfl) (16 * r + c) rfl (by omega) dX7_heightAt_25 ?_
      refine lv_goto (tgt := 30) hx hb dX7_heightAt_26 (by decide) ?_
      exact r_iret CF hr hlk hH hS dX7_heightAt_30 ⟨rfl, rfl⟩

set_option maxRecDepth 100000 in
set_option maxHeartbeats 4000000 in
theorem c_X7_put (l : Launch) (G : Gm) (σ : Sg) (r c : Nat) (v : Int32) (h1 : r < 10) (h2 : c < 16) : Met l yX7_put wsX7_put (rmO 0 0) (PP G [.ref (G.2.1 21), .int (nI r), .int (nI c), .int v] σ) (QV G (VV (u2 σ 22 (16 * r + c) v))) 0 0 (fr G) := by
  refine r_start (cc := cX7_put) (maxL := 5) (ret := none) (by decide) rfl (Nat.le_of_ble_eq_true rfl) ?_
  intro pz ez sz mz below meth cz ls CF hr hlk hK hH hS hl
  have CF : CallFix pz mz cz cX7_put 5 sz (List.toArray [.ref (G.2.1 21), .int (nI r), .int (nI c), .int v]) wsX7_put RX7 := CF
  have hx := CF.1
  have hb := CF.2.1
  have hown := CF.2.2.2.1
  have hts := CF.2.2.2.2
  have hl : lv_has ls 5 [(0, .ref (G.2.1 21)), (1, .int (nI r)), (2, .int (nI c)), (3, .int v)] := hl
  have K1 := hts _ (List.mem_of_getElem? (i := 1) rfl)
  have JX7 : ∀ w ∈ wsX70, w ∈ wsX7_put := in_r _ [2, 3, 4] (by decide +kernel)
  refine lv_iload_n hx hb dX7_put_0 rfl (lv_at hl 1 rfl) ?_
  refine lv_bipush (v := 16) hx hb dX7_put_1 (by decide) ?_
  refine lv_imul hx hb dX7_put_3 ?_
  refine lv_iload_n hx hb dX7_put_4 rfl (lv_at hl 2 rfl) ?_
  refine lv_iadd hx hb dX7_put_5 ?_
  refine r_top (show ((((nI r) * (16 : Int32)) + (nI c)) : Int32) = nI (16 * r + c) from ix16 r c) ?_
  refine lv_istore (lv' := [(4, .int (nI (16 * r + c))), (0, .ref (G.2.1 21)), (1, .int (nI r)), (2, .int (nI c)), (3, .int v)]) hx hb dX7_put_6 hl (by decide) rfl (fun ls hl => ?_)
  refine lv_iload hx hb dX7_put_8 (lv_at hl 0 rfl) ?_
  refine lv_if_lt (tgt := 31) hx hb dX7_put_10 (by decide) (fun c10 => ?_) (fun c10 => ?_)
  · exact absurd c10 (nI_pos (by omega))
  · refine lv_iload hx hb dX7_put_13 (lv_at hl 0 rfl) ?_
    refine lv_aload_n hx hb dX7_put_15 rfl (lv_at hl 1 rfl) ?_
    refine r_get CF hK hH 21 (Nat.le_of_ble_eq_true rfl) rfl rfl JX7 2 (by decide) K1 rfl dX7_put_16 ?_
    refine r_alen (v := 160) CF hK hH 22 (Nat.le_of_ble_eq_true rfl) rfl 0 rfl rfl dX7_put_19 ?_
    refine lv_icmp_ge (tgt := 31) hx hb dX7_put_20 (by decide) (fun c20 => ?_) (fun c20 => ?_)
    · exact absurd c20 (nI_ge (b := 160) (by omega) (by omega))
    · refine lv_aload_n hx hb dX7_put_23 rfl (lv_at hl 1 rfl) ?_
      refine r_get CF hK hH 21 (Nat.le_of_ble_eq_true rfl) rfl rfl JX7 2 (by decide) K1 rfl dX7_put_24 ?_
      refine lv_iload hx hb dX7_put_27 (lv_at hl 0 rfl) ?_
      refine lv_iload_n hx hb dX7_put_29 rfl (lv_at hl 4 rfl) ?_
      refine r_iast CF hK hH hS 22 (Nat.le_of_ble_eq_true rfl) (fun _ => rfl) (Nat.le_of_ble_eq_true rfl) (16 * r + c) rfl (by omega) dX7_put_30 (fun H locs hH hS => ?_)
      exact r_vret CF hr hlk hH hS dX7_put_31 rfl

def zr (f : Nat → Int32) (n : Nat) : Nat → Int32 := fun j => if j < n then 0 else f j
theorem zr_0 (f : Nat → Int32) : zr f 0 = f := by funext j; simp [zr]
theorem zr_s (f : Nat → Int32) (n : Nat) : va_up (zr f n) n 0 = zr f (n + 1) := by
  funext j
  by_cases h : j = n
  · subst h; simp [va_up, zr]
  · rw [up_n _ _ h]; unfold zr
    by_cases h2 : j < n
    · rw [if_pos h2, if_pos (by omega)]
    · rw [if_neg h2, if_neg (by omega)]
theorem up_up {α : Type} (f : Nat → α) (k : Nat) (v w : α) : va_up (va_up f k v) k w = va_up f k w := by
  funext j
  by_cases h : j = k
  · subst h; simp [va_up]
  · rw [up_n _ _ h, up_n _ _ h, up_n _ _ h]
theorem u2_up (σ : Sg) (k : Nat) (f : Nat → Int32) (j : Nat) (v : Int32) : u2 (va_up σ k f) k j v = va_up σ k (va_up f j v) := by
  unfold u2; rw [up_s, up_up]
theorem up_id {α : Type} (f : Nat → α) (k : Nat) : va_up f k (f k) = f := by
  funext j
  by_cases h : j = k
  · subst h; simp [va_up]
  · rw [up_n _ _ h]

set_option maxRecDepth 100000 in
set_option maxHeartbeats 4000000 in
theorem c_X7_flatten (l : Launch) (G : Gm) (σ : Sg) (x y : Int32) : Met l yX7_flatten wsX7_flatten (rmO 0 0) (PP G [.ref (G.2.1 21), .int x, .int y] σ) (QV G (VV (va_up (u2 (u2 σ 21 0 x) 21 1 y) 22 (zr (σ 22) 160)))) 0 0 (fr G) := by
  refine r_start (cc := cX7_flatten) (maxL := 4) (ret := none) (by decide) rfl (Nat.le_of_ble_eq_true rfl) ?_
  intro pz ez sz mz below meth cz ls CF hr hlk hK hH hS hl
  have CF : CallFix pz mz cz cX7_flatten 4 sz (List.toArray [.ref (G.2.1 21), .int x, .int y]) wsX7_flatten RX7 := CF
  have hx := CF.1
  have hb := CF.2.1
  have hown := CF.2.2.2.1
  have hts := CF.2.2.2.2
  have hl : lv_has ls 4 [(0, .ref (G.2.1 21)), (1, .int x), (2, .int y)] := hl
  have K1 := hts _ (List.mem_of_getElem? (i := 1) rfl)
  have K2 := hts _ (List.mem_of_getElem? (i := 2) rfl)
  have K3 := hts _ (List.mem_of_getElem? (i := 3) rfl)
  have JX7 : ∀ w ∈ wsX70, w ∈ wsX7_flatten := in_r _ [4, 5, 6] (by decide +kernel)
  refine lv_aload_n hx hb dX7_flatten_0 rfl (lv_at hl 0 rfl) ?_
  refine lv_iload_n hx hb dX7_flatten_1 rfl (lv_at hl 1 rfl) ?_
  refine r_put CF hK hH hS 21 (Nat.le_of_ble_eq_true rfl) rfl rfl JX7 tyX7 tyX7_ok nmX7 0 (by decide) K1 rfl (by decide +kernel) (Nat.le_of_ble_eq_true rfl) rfl dX7_flatten_2 (fun H locs hH hS => ?_)
  refine lv_aload_n hx hb dX7_flatten_5 rfl (lv_at hl 0 rfl) ?_
  refine lv_iload_n hx hb dX7_flatten_6 rfl (lv_at hl 2 rfl) ?_
  refine r_put CF hK hH hS 21 (Nat.le_of_ble_eq_true rfl) rfl rfl JX7 tyX7 tyX7_ok nmX7 1 (by decide) K2 rfl (by decide +kernel) (Nat.le_of_ble_eq_true rfl) rfl dX7_flatten_7 (fun H locs hH hS => ?_)
  refine lv_iconst (v := 0) hx hb dX7_flatten_10 (by decide) ?_
  refine lv_istore_n (lv' := [(3, .int (0 : Int32)), (0, .ref (G.2.1 21)), (1, .int x), (2, .int y)]) hx hb dX7_flatten_11 rfl hl (by decide) rfl (fun ls hl => ?_)
  have lp12 : ∀ (fu : Nat) (i : Nat) (σ1 : Sg) (H : Heap) (locs : List Loc) (ls : Array Slot), (161 ≤ i + fu) → (i ≤ 160) → (σ1 = va_up (u2 (u2 σ 21 0 x) 21 1 y) 22 (zr (σ 22) i)) → Hp G σ1 H → va_S (fr G) sz.heap H locs → lv_has ls 4 [(0, .ref (G.2.1 21)), (3, .int (nI i)), (1, .int x), (2, .int y)] → W pz l ez (rmO 0 0) sz mz (List.toArray [.ref (G.2.1 21), .int x, .int y]) below meth cz H locs 0 0 (MQ below (QV G (VV (va_up (u2 (u2 σ 21 0 x) 21 1 y) 22 (zr (σ 22) 160)))) (List.toArray [.ref (G.2.1 21), .int x, .int y]) sz 0 0 (fr G)) (F0 mz 12 ls []) := by
    intro fu
    induction fu with
    | zero => intros; omega
    | succ fu ih12 =>
      intro i σ1 H locs ls hf hi hσ hH hS hl
      refine lv_iload_n hx hb dX7_flatten_12 rfl (lv_at hl 1 rfl) ?_
      refine lv_aload_n hx hb dX7_flatten_13 rfl (lv_at hl 0 rfl) ?_
      refine r_get CF hK hH 21 (Nat.le_of_ble_eq_true rfl) rfl rfl JX7 2 (by decide) K3 rfl dX7_flatten_14 ?_
      refine r_alen (v := 160) CF hK hH 22 (Nat.le_of_ble_eq_true rfl) rfl 0 rfl rfl dX7_flatten_17 ?_
      refine lv_icmp_ge (tgt := 34) hx hb dX7_flatten_18 (by decide) (fun c18 => ?_) (fun c18 => ?_)
      · have c18 : 160 ≤ i := (nI_leI (a := 160) (b := i) (by omega) (by omega)).mp c18
        exact r_vret CF hr hlk hH hS dX7_flatten_34 (by have e : i = 160 := (by omega); subst e; exact hσ)
      · have c18 : i < 160 := Nat.lt_of_not_le (fun zq => c18 ((nI_leI (a := 160) (b := i) (by omega) (by omega)).mpr zq))
        refine lv_aload_n hx hb dX7_flatten_21 rfl (lv_at hl 0 rfl) ?_
        refine r_get CF hK hH 21 (Nat.le_of_ble_eq_true rfl) rfl rfl JX7 2 (by decide) K3 rfl dX7_flatten_22 ?_
        refine lv_iload_n hx hb dX7_flatten_25 rfl (lv_at hl 1 rfl) ?_
        refine lv_iconst (v := 0) hx hb dX7_flatten_26 (by decide) ?_
        refine r_iast CF hK hH hS 22 (Nat.le_of_ble_eq_true rfl) (fun _ => rfl) (Nat.le_of_ble_eq_true rfl) i rfl (by omega) dX7_flatten_27 (fun H locs hH hS => ?_)
        refine lv_iinc (v := nI (i + 1)) (lv' := [(3, .int (nI (i + 1))), (0, .ref (G.2.1 21)), (1, .int x), (2, .int y)]) hx hb dX7_flatten_28 hl (k := 1) rfl (nI_1 _) (by decide) rfl (fun ls hl => ?_)
        refine lv_goto (tgt := 12) hx hb dX7_flatten_31 (by decide) ?_
        exact ih12 (i + 1) (u2 σ1 22 i (0 : Int32)) _ _ ls (by omega) (by omega) (by rw [hσ, u2_up, zr_s]) hH hS (lv_sub hl [1, 0, 2, 3] rfl)
  exact lp12 161 0 (u2 (u2 σ 21 0 x) 21 1 y) _ _ ls (by omega) (by omega) (by rw [zr_0]; exact (up_id _ 22).symm) hH hS (lv_sub hl [1, 0, 2, 3] rfl)

set_option maxRecDepth 100000 in
set_option maxHeartbeats 4000000 in
theorem c_J9_floorDiv_7cf53 (l : Launch) (G : Gm) (σ : Sg) (x y : Int32) (hy : ¬ y = 0) : Met l yJ9_floorDiv_7cf53 wsJ9_floorDiv_7cf53 (rmO 0 0) (PP G [.int x, .int y] σ) (QI G (RV (fdI x y) σ)) 0 0 (fr G) := by
  refine r_startF (cc := cJ9_floorDiv_7cf53) (maxL := 3) (ret := (some .int)) (by decide +kernel) rfl (Nat.le_of_ble_eq_true rfl) ?_
  intro pz ez sz mz below meth cz ls CF hr hlk hK hH hS hl
  have CF : CallFix pz mz cz cJ9_floorDiv_7cf53 3 sz (List.toArray [.int x, .int y]) wsJ9_floorDiv_7cf53 RJ9 := CF
  have hx := CF.1
  have hb := CF.2.1
  have hown := CF.2.2.2.1
  have hts := CF.2.2.2.2
  have hl : lv_has ls 3 [(0, .int x), (1, .int y)] := hl
  refine lv_iload_n hx hb dJ9_floorDiv_7cf53_0 rfl (lv_at hl 0 rfl) ?_
  refine lv_iload_n hx hb dJ9_floorDiv_7cf53_1 rfl (lv_at hl 1 rfl) ?_
  refine lv_idiv hx hb dJ9_floorDiv_7cf53_2 hy ?_
  refine lv_istore_n (lv' := [(2, .int (x / y)), (0, .int x), (1, .int y)]) hx hb dJ9_floorDiv_7cf53_3 rfl hl (by decide) rfl (fun ls hl => ?_)
  refine lv_iload_n hx hb dJ9_floorDiv_7cf53_4 rfl (lv_at hl 1 rfl) ?_
  refine lv_iload_n hx hb dJ9_floorDiv_7cf53_5 rfl (lv_at hl 2 rfl) ?_
  refine lv_ixor hx hb dJ9_floorDiv_7cf53_6 ?_
  refine lv_if_ge (tgt := 21) hx hb dJ9_floorDiv_7cf53_7 (by decide) (fun c7 => ?_) (fun c7 => ?_)
  · refine lv_iload_n hx hb dJ9_floorDiv_7cf53_21 rfl (lv_at hl 0 rfl) ?_
    exact r_iret CF hr hlk hH hS dJ9_floorDiv_7cf53_22 ⟨by simp [fdI, c7], rfl⟩
  · refine lv_iload_n hx hb dJ9_floorDiv_7cf53_10 rfl (lv_at hl 0 rfl) ?_
    refine lv_iload_n hx hb dJ9_floorDiv_7cf53_11 rfl (lv_at hl 2 rfl) ?_
    refine lv_imul hx hb dJ9_floorDiv_7cf53_12 ?_
    refine lv_iload_n hx hb dJ9_floorDiv_7cf53_13 rfl (lv_at hl 1 rfl) ?_
    refine lv_icmp_eq (tgt := 21) hx hb dJ9_floorDiv_7cf53_14 (by decide) (fun c14 => ?_) (fun c14 => ?_)
    · refine lv_iload_n hx hb dJ9_floorDiv_7cf53_21 rfl (lv_at hl 0 rfl) ?_
      exact r_iret CF hr hlk hH hS dJ9_floorDiv_7cf53_22 ⟨by simp [fdI, c7, c14], rfl⟩
    · refine lv_iload_n hx hb dJ9_floorDiv_7cf53_17 rfl (lv_at hl 0 rfl) ?_
      refine lv_iconst (v := 1) hx hb dJ9_floorDiv_7cf53_18 (by decide) ?_
      refine lv_isub hx hb dJ9_floorDiv_7cf53_19 ?_
      exact r_iret CF hr hlk hH hS dJ9_floorDiv_7cf53_20 ⟨by simp [fdI, c7, c14], rfl⟩

theorem steps_nI {pr pc r c : Nat} (h1 : pr < 10) (h2 : pc < 16) (h3 : r < 10) (h4 : c < 16) : (if ab (nI r - nI pr) < ab (nI c - nI pc) then ab (nI c - nI pc) else ab (nI r - nI pr)) = nI (nnF pr pc r c) := by
  rw [ab_nI (by omega) (by omega), ab_nI (by omega) (by omega)]
  have a1 : ad1 r pr < 100 := by unfold ad1; omega
  have a2 : ad1 c pc < 100 := by unfold ad1; omega
  exact mx_nI (by omega) (by omega)
theorem twon {n : Nat} (h : 2 ≤ n) (h2 : n ≤ 15) : ¬ (2 : Int32) * nI n = 0 := by
  rw [show (2 : Int32) * nI n = nI (2 * n) from pk_mul 2 n]
  exact nI_ne0 (by omega) (by omega)

set_option maxRecDepth 100000 in
set_option maxHeartbeats 4000000 in
theorem c_X1_isLineFree (l : Launch) (G : Gm) (σ : Sg) (pr pc r c : Nat) (h1 : pr < 10) (h2 : pc < 16) (h3 : r < 10) (h4 : c < 16) : Met l yX1_isLineFree wsX1_isLineFree (rmO 1 23) (PP G [.ref (G.2.1 23), .ref (G.2.1 21), .int (nI pr), .int (nI pc), .int (nI r), .int (nI c)] σ) (QI G (RV (b2i (lfr (σ 22) (σ 23 0) (σ 22 (16 * r + c)) pr pc r c)) σ)) 0 0 (fr G) := by
  refine r_start (cc := cX1_isLineFree) (maxL := 14) (ret := (some .boolean)) (by decide) rfl (Nat.le_of_ble_eq_true rfl) ?_
  intro pz ez sz mz below meth cz ls CF hr hlk hK hH hS hl
  have CF : CallFix pz mz cz cX1_isLineFree 14 sz (List.toArray [.ref (G.2.1 23), .ref (G.2.1 21), .int (nI pr), .int (nI pc), .int (nI r), .int (nI c)]) wsX1_isLineFree RX1 := CF
  have hx := CF.1
  have hb := CF.2.1
  have hown := CF.2.2.2.1
  have hts := CF.2.2.2.2
  have hl : lv_has ls 14 [(0, .ref (G.2.1 23)), (1, .ref (G.2.1 21)), (2, .int (nI pr)), (3, .int (nI pc)), (4, .int (nI r)), (5, .int (nI c))] := hl
  have K1 := hts _ (List.mem_of_getElem? (i := 1) rfl)
  have K2 := hts _ (List.mem_of_getElem? (i := 2) rfl)
  have K3 := hts _ (List.mem_of_getElem? (i := 3) rfl)
  have K4 := hts _ (List.mem_of_getElem? (i := 4) rfl)
  have K5 := hts _ (List.mem_of_getElem? (i := 5) rfl)
  have K6 := hts _ (List.mem_of_getElem? (i := 6) rfl)
  have K7 := hts _ (List.mem_of_getElem? (i := 7) rfl)
  have K8 := hts _ (List.mem_of_getElem? (i := 8) rfl)
  have JX1 : ∀ w ∈ wsX10, w ∈ wsX1_isLineFree := in_r _ [19, 20, 21, 22] (by decide +kernel)
  have hnn := nnF_le h1 h2 h3 h4
  have hn1 := nnF_1 pr pc r c
  have hn2 := nnF_2 pr pc r c
  generalize hN : nnF pr pc r c = N at hnn hn1 hn2
  refine lv_iload hx hb dX1_isLineFree_0 (lv_at hl 4 rfl) ?_
  refine lv_iload_n hx hb dX1_isLineFree_2 rfl (lv_at hl 2 rfl) ?_
  refine lv_isub hx hb dX1_isLineFree_3 ?_
  refine lv_istore (lv' := [(6, .int ((nI r) - (nI pr))), (0, .ref (G.2.1 23)), (1, .ref (G.2.1 21)), (2, .int (nI pr)), (3, .int (nI pc)), (4, .int (nI r)), (5, .int (nI c))]) hx hb dX1_isLineFree_4 hl (by decide) rfl (fun ls hl => ?_)
  refine lv_iload hx hb dX1_isLineFree_6 (lv_at hl 6 rfl) ?_
  refine lv_iload_n hx hb dX1_isLineFree_8 rfl (lv_at hl 4 rfl) ?_
  refine lv_isub hx hb dX1_isLineFree_9 ?_
  refine lv_istore (lv' := [(7, .int ((nI c) - (nI pc))), (6, .int ((nI r) - (nI pr))), (0, .ref (G.2.1 23)), (1, .ref (G.2.1 21)), (2, .int (nI pr)), (3, .int (nI pc)), (4, .int (nI r)), (5, .int (nI c))]) hx hb dX1_isLineFree_10 hl (by decide) rfl (fun ls hl => ?_)
  refine lv_iload hx hb dX1_isLineFree_12 (lv_at hl 1 rfl) ?_
  refine va_mabs hx hb (by rw [CF.2.2.1]; exact hl.1.symm) hown K1 K2 K3 K4 (Nat.le_of_ble_eq_true rfl) (Nat.le_of_ble_eq_true rfl) (Nat.le_of_ble_eq_true rfl) (Nat.le_of_ble_eq_true rfl) dX1_isLineFree_14 ?_
  refine r_top (show ((if 0 ≤ ((nI r) - (nI pr)) then ((nI r) - (nI pr)) else 0 - ((nI r) - (nI pr))) : Int32) = ab (nI r - nI pr) from ab_m _) ?_
  refine lv_iload hx hb dX1_isLineFree_17 (lv_at hl 0 rfl) ?_
  refine va_mabs hx hb (by rw [CF.2.2.1]; exact hl.1.symm) hown K1 K2 K3 K4 (Nat.le_of_ble_eq_true rfl) (Nat.le_of_ble_eq_true rfl) (Nat.le_of_ble_eq_true rfl) (Nat.le_of_ble_eq_true rfl) dX1_isLineFree_19 ?_
  refine r_top (show ((if 0 ≤ ((nI c) - (nI pc)) then ((nI c) - (nI pc)) else 0 - ((nI c) - (nI pc))) : Int32) = ab (nI c - nI pc) from ab_m _) ?_
  refine va_mmax hx hb (by rw [CF.2.2.1]; exact hl.1.symm) hown K5 K6 K3 K7 (Nat.le_of_ble_eq_true rfl) (Nat.le_of_ble_eq_true rfl) (Nat.le_of_ble_eq_true rfl) (Nat.le_of_ble_eq_true rfl) dX1_isLineFree_22 ?_
  refine r_top (show ((if (ab (nI r - nI pr)) < (ab (nI c - nI pc)) then (ab (nI c - nI pc)) else (ab (nI r - nI pr))) : Int32) = nI N from (by rw [steps_nI h1 h2 h3 h4, hN])) ?_
  refine lv_istore (lv' := [(8, .int (nI N)), (7, .int ((nI c) - (nI pc))), (6, .int ((nI r) - (nI pr))), (0, .ref (G.2.1 23)), (1, .ref (G.2.1 21)), (2, .int (nI pr)), (3, .int (nI pc)), (4, .int (nI r)), (5, .int (nI c))]) hx hb dX1_isLineFree_25 hl (by decide) rfl (fun ls hl => ?_)
  refine lv_iload hx hb dX1_isLineFree_27 (lv_at hl 0 rfl) ?_
  refine lv_iconst (v := 2) hx hb dX1_isLineFree_29 (by decide) ?_
  refine lv_icmp_ge (tgt := 35) hx hb dX1_isLineFree_30 (by decide) (fun c30 => ?_) (fun c30 => ?_)
  · have c30 : 2 ≤ N := (nI_leI (a := 2) (b := N) (by omega) (by omega)).mp c30
    refine lv_aload_n hx hb dX1_isLineFree_35 rfl (lv_at hl 4 rfl) ?_
    refine lv_iload hx hb dX1_isLineFree_36 (lv_at hl 7 rfl) ?_
    refine lv_iload hx hb dX1_isLineFree_38 (lv_at hl 8 rfl) ?_
    refine r_cR hS (r_runV (n := 2) (As := [.int (nI r), .int (nI c)]) (rest := []) CF hK hH (c_X7_heightAt l G σ r c (by omega) (by omega)) gX1_isLineFree_X7_heightAt rfl rfl rfl rfl (by decide +kernel) ⟨⟨Nat.le_of_ble_eq_true rfl, Nat.le_of_ble_eq_true rfl⟩, Nat.le_of_ble_eq_true rfl, Nat.le_of_ble_eq_true rfl⟩ 21 rfl (Nat.le_of_ble_eq_true rfl) rfl rfl rfl hl.1 rfl (Nat.le_of_ble_eq_true rfl) dX1_isLineFree_40) (fun H locs hH hS => ?_)
    refine lv_aload_n hx hb dX1_isLineFree_43 rfl (lv_at hl 3 rfl) ?_
    refine r_get CF hK hH 23 (Nat.le_of_ble_eq_true rfl) rfl rfl JX1 0 (by decide) K8 rfl dX1_isLineFree_44 ?_
    refine lv_isub hx hb dX1_isLineFree_47 ?_
    refine lv_istore (lv' := [(9, .int ((σ 22 (16 * r + c)) - (σ 23 0))), (8, .int (nI N)), (7, .int ((nI c) - (nI pc))), (6, .int ((nI r) - (nI pr))), (0, .ref (G.2.1 23)), (1, .ref (G.2.1 21)), (2, .int (nI pr)), (3, .int (nI pc)), (4, .int (nI r)), (5, .int (nI c))]) hx hb dX1_isLineFree_48 hl (by decide) rfl (fun ls hl => ?_)
    refine lv_iconst (v := 1) hx hb dX1_isLineFree_50 (by decide) ?_
    refine lv_istore (lv' := [(10, .int (1 : Int32)), (9, .int ((σ 22 (16 * r + c)) - (σ 23 0))), (8, .int (nI N)), (7, .int ((nI c) - (nI pc))), (6, .int ((nI r) - (nI pr))), (0, .ref (G.2.1 23)), (1, .ref (G.2.1 21)), (2, .int (nI pr)), (3, .int (nI pc)), (4, .int (nI r)), (5, .int (nI c))]) hx hb dX1_isLineFree_51 hl (by decide) rfl (fun ls hl => ?_)
    have lp53 : ∀ (fu : Nat) (k : Nat) (H : Heap) (locs : List Loc) (ls : Array Slot), (N + 1 ≤ k + fu) → (1 ≤ k) → (k ≤ N) → (cnt (blk (σ 22) (σ 23 0) (σ 22 (16 * r + c)) pr pc r c N) k = 0) → Hp G σ H → va_S (fr G) sz.heap H locs → lv_has ls 14 [(0, .ref (G.2.1 23)), (1, .ref (G.2.1 21)), (2, .int (nI pr)), (3, .int (nI pc)), (6, .int (nI r - nI pr)), (7, .int (nI c - nI pc)), (8, .int (nI N)), (9, .int (σ 22 (16 * r + c) - σ 23 0)), (10, .int (nI k))] → W pz l ez (rmO 1 23) sz mz (List.toArray [.ref (G.2.1 23), .ref (G.2.1 21), .int (nI pr), .int (nI pc), .int (nI r), .int (nI c)]) below meth cz H locs 0 0 (MQ below (QI G (RV (b2i (lfr (σ 22) (σ 23 0) (σ 22 (16 * r + c)) pr pc r c)) σ)) (List.toArray [.ref (G.2.1 23), .ref (G.2.1 21), .int (nI pr), .int (nI pc), .int (nI r), .int (nI c)]) sz 0 0 (fr G)) (F0 mz 53 ls []) := by
      intro fu
      induction fu with
      | zero => intros; omega
      | succ fu ih53 =>
        intro k H locs ls hf hk1 hkN hz hH hS hl
        refine lv_iload hx hb dX1_isLineFree_53 (lv_at hl 8 rfl) ?_
        refine lv_iload hx hb dX1_isLineFree_55 (lv_at hl 6 rfl) ?_
        refine lv_icmp_ge (tgt := 141) hx hb dX1_isLineFree_57 (by decide) (fun c57 => ?_) (fun c57 => ?_)
        · have c57 : N ≤ k := (nI_leI (a := N) (b := k) (by omega) (by omega)).mp c57
          refine lv_iconst (v := 1) hx hb dX1_isLineFree_141 (by decide) ?_
          exact r_zret CF hr hlk hH hS rfl dX1_isLineFree_142 ⟨by unfold lfr; rw [hN]; have e : k = N := (by omega); subst e; simp [hz, b2i], rfl⟩
        · have c57 : k < N := Nat.lt_of_not_le (fun zq => c57 ((nI_leI (a := N) (b := k) (by omega) (by omega)).mpr zq))
          have q1 := qz_lt hk1 c57 hn1 h1 h3
          have q2 := qz_lt hk1 c57 hn2 h2 h4
          refine lv_iload_n hx hb dX1_isLineFree_60 rfl (lv_at hl 2 rfl) ?_
          refine lv_iconst (v := 2) hx hb dX1_isLineFree_61 (by decide) ?_
          refine lv_iload hx hb dX1_isLineFree_62 (lv_at hl 8 rfl) ?_
          refine lv_imul hx hb dX1_isLineFree_64 ?_
          refine lv_iload hx hb dX1_isLineFree_65 (lv_at hl 4 rfl) ?_
          refine lv_imul hx hb dX1_isLineFree_67 ?_
          refine lv_iload hx hb dX1_isLineFree_68 (lv_at hl 6 rfl) ?_
          refine lv_iadd hx hb dX1_isLineFree_70 ?_
          refine lv_iconst (v := 2) hx hb dX1_isLineFree_71 (by decide) ?_
          refine lv_iload hx hb dX1_isLineFree_72 (lv_at hl 6 rfl) ?_
          refine lv_imul hx hb dX1_isLineFree_74 ?_
          refine r_cR hS (r_runS (n := 2) (As := [.int ((((2 : Int32) * (nI k)) * (nI r - nI pr)) + (nI N)), .int ((2 : Int32) * (nI N))]) (rest := [.int (nI pr)]) CF hK hH (c_J9_floorDiv_7cf53 l G σ ((((2 : Int32) * (nI k)) * (nI r - nI pr)) + (nI N)) ((2 : Int32) * (nI N)) (twon c30 hnn)) gX1_isLineFree_J9_floorDiv_7cf53 rfl rfl rfl (by decide +kernel) ⟨⟨Nat.le_of_ble_eq_true rfl, Nat.le_of_ble_eq_true rfl⟩, Nat.le_of_ble_eq_true rfl, Nat.le_of_ble_eq_true rfl⟩ rfl hl.1 rfl (Nat.le_of_ble_eq_true rfl) dX1_isLineFree_75) (fun H locs hH hS => ?_)
          refine lv_iadd hx hb dX1_isLineFree_78 ?_
          refine r_top (show (((nI pr) + (fdI ((((2 : Int32) * (nI k)) * (nI r - nI pr)) + (nI N)) ((2 : Int32) * (nI N)))) : Int32) = nI (qz k N pr r) from ln_c hk1 c57 (by omega) (by omega) (by omega) hn1) ?_
          refine lv_istore (lv' := [(11, .int (nI (qz k N pr r))), (0, .ref (G.2.1 23)), (1, .ref (G.2.1 21)), (2, .int (nI pr)), (3, .int (nI pc)), (6, .int (nI r - nI pr)), (7, .int (nI c - nI pc)), (8, .int (nI N)), (9, .int (σ 22 (16 * r + c) - σ 23 0)), (10, .int (nI k))]) hx hb dX1_isLineFree_79 hl (by decide) rfl (fun ls hl => ?_)
          refine lv_iload_n hx hb dX1_isLineFree_81 rfl (lv_at hl 4 rfl) ?_
          refine lv_iconst (v := 2) hx hb dX1_isLineFree_82 (by decide) ?_
          refine lv_iload hx hb dX1_isLineFree_83 (lv_at hl 9 rfl) ?_
          refine lv_imul hx hb dX1_isLineFree_85 ?_
          refine lv_iload hx hb dX1_isLineFree_86 (lv_at hl 6 rfl) ?_
          refine lv_imul hx hb dX1_isLineFree_88 ?_
          refine lv_iload hx hb dX1_isLineFree_89 (lv_at hl 7 rfl) ?_
          refine lv_iadd hx hb dX1_isLineFree_91 ?_
          refine lv_iconst (v := 2) hx hb dX1_isLineFree_92 (by decide) ?_
          refine lv_iload hx hb dX1_isLineFree_93 (lv_at hl 7 rfl) ?_
          refine lv_imul hx hb dX1_isLineFree_95 ?_
          refine r_cR hS (r_runS (n := 2) (As := [.int ((((2 : Int32) * (nI k)) * (nI c - nI pc)) + (nI N)), .int ((2 : Int32) * (nI N))]) (rest := [.int (nI pc)]) CF hK hH (c_J9_floorDiv_7cf53 l G σ ((((2 : Int32) * (nI k)) * (nI c - nI pc)) + (nI N)) ((2 : Int32) * (nI N)) (twon c30 hnn)) gX1_isLineFree_J9_floorDiv_7cf53 rfl rfl rfl (by decide +kernel) ⟨⟨Nat.le_of_ble_eq_true rfl, Nat.le_of_ble_eq_true rfl⟩, Nat.le_of_ble_eq_true rfl, Nat.le_of_ble_eq_true rfl⟩ rfl hl.1 rfl (Nat.le_of_ble_eq_true rfl) dX1_isLineFree_96) (fun H locs hH hS => ?_)
          refine lv_iadd hx hb dX1_isLineFree_99 ?_
          refine r_top (show (((nI pc) + (fdI ((((2 : Int32) * (nI k)) * (nI c - nI pc)) + (nI N)) ((2 : Int32) * (nI N)))) : Int32) = nI (qz k N pc c) from ln_c hk1 c57 (by omega) h2 h4 hn2) ?_
          refine lv_istore (lv' := [(12, .int (nI (qz k N pc c))), (11, .int (nI (qz k N pr r))), (0, .ref (G.2.1 23)), (1, .ref (G.2.1 21)), (2, .int (nI pr)), (3, .int (nI pc)), (6, .int (nI r - nI pr)), (7, .int (nI c - nI pc)), (8, .int (nI N)), (9, .int (σ 22 (16 * r + c) - σ 23 0)), (10, .int (nI k))]) hx hb dX1_isLineFree_100 hl (by decide) rfl (fun ls hl => ?_)
          refine lv_aload_n hx hb dX1_isLineFree_102 rfl (lv_at hl 3 rfl) ?_
          refine lv_iload hx hb dX1_isLineFree_103 (lv_at hl 1 rfl) ?_
          refine lv_iload hx hb dX1_isLineFree_105 (lv_at hl 0 rfl) ?_
          refine r_cR hS (r_runV (n := 2) (As := [.int (nI (qz k N pr r)), .int (nI (qz k N pc c))]) (rest := []) CF hK hH (c_X7_heightAt l G σ (qz k N pr r) (qz k N pc c) q1 q2) gX1_isLineFree_X7_heightAt rfl rfl rfl rfl (by decide +kernel) ⟨⟨Nat.le_of_ble_eq_true rfl, Nat.le_of_ble_eq_true rfl⟩, Nat.le_of_ble_eq_true rfl, Nat.le_of_ble_eq_true rfl⟩ 21 rfl (Nat.le_of_ble_eq_true rfl) rfl rfl rfl hl.1 rfl (Nat.le_of_ble_eq_true rfl) dX1_isLineFree_107) (fun H locs hH hS => ?_)
          refine lv_istore (lv' := [(13, .int (σ 22 (16 * (qz k N pr r) + (qz k N pc c)))), (12, .int (nI (qz k N pc c))), (11, .int (nI (qz k N pr r))), (0, .ref (G.2.1 23)), (1, .ref (G.2.1 21)), (2, .int (nI pr)), (3, .int (nI pc)), (6, .int (nI r - nI pr)), (7, .int (nI c - nI pc)), (8, .int (nI N)), (9, .int (σ 22 (16 * r + c) - σ 23 0)), (10, .int (nI k))]) hx hb dX1_isLineFree_110 hl (by decide) rfl (fun ls hl => ?_)
          refine lv_iload hx hb dX1_isLineFree_112 (lv_at hl 0 rfl) ?_
          refine lv_iload hx hb dX1_isLineFree_114 (lv_at hl 9 rfl) ?_
          refine lv_imul hx hb dX1_isLineFree_116 ?_
          refine lv_aload_n hx hb dX1_isLineFree_117 rfl (lv_at hl 3 rfl) ?_
          refine r_get CF hK hH 23 (Nat.le_of_ble_eq_true rfl) rfl rfl JX1 0 (by decide) K8 rfl dX1_isLineFree_118 ?_
          refine lv_iload hx hb dX1_isLineFree_121 (lv_at hl 9 rfl) ?_
          refine lv_imul hx hb dX1_isLineFree_123 ?_
          refine lv_iload hx hb dX1_isLineFree_124 (lv_at hl 10 rfl) ?_
          refine lv_iload hx hb dX1_isLineFree_126 (lv_at hl 11 rfl) ?_
          refine lv_imul hx hb dX1_isLineFree_128 ?_
          refine lv_iadd hx hb dX1_isLineFree_129 ?_
          refine lv_icmp_le (tgt := 135) hx hb dX1_isLineFree_130 (by decide) (fun c130 => ?_) (fun c130 => ?_)
          · refine lv_iinc (v := nI (k + 1)) (lv' := [(10, .int (nI (k + 1))), (13, .int (σ 22 (16 * (qz k N pr r) + (qz k N pc c)))), (12, .int (nI (qz k N pc c))), (11, .int (nI (qz k N pr r))), (0, .ref (G.2.1 23)), (1, .ref (G.2.1 21)), (2, .int (nI pr)), (3, .int (nI pc)), (6, .int (nI r - nI pr)), (7, .int (nI c - nI pc)), (8, .int (nI N)), (9, .int (σ 22 (16 * r + c) - σ 23 0))]) hx hb dX1_isLineFree_135 hl (k := 11) rfl (nI_1 _) (by decide) rfl (fun ls hl => ?_)
            refine lv_goto (tgt := 53) hx hb dX1_isLineFree_138 (by decide) ?_
            exact ih53 (k + 1) _ _ ls (by omega) (by omega) (by omega) (by rw [cnt_f (by simp [blk, c130]), hz]) hH hS (lv_sub hl [4, 5, 6, 7, 8, 9, 10, 11, 0] rfl)
          · refine lv_iconst (v := 0) hx hb dX1_isLineFree_133 (by decide) ?_
            exact r_zret CF hr hlk hH hS rfl dX1_isLineFree_134 ⟨by unfold lfr; rw [hN]; have := cnt_pos (p := blk (σ 22) (σ 23 0) (σ 22 (16 * r + c)) pr pc r c N) (i := k) (by simp [blk, c130, hk1]) c57; simp [b2i]; omega, rfl⟩
    exact lp53 N 1 _ _ ls (by omega) (by omega) (by omega) (by simp [cnt, blk]) hH hS (lv_sub hl [5, 6, 7, 8, 4, 3, 2, 1, 0] rfl)
  · have c30 : N < 2 := Nat.lt_of_not_le (fun zq => c30 ((nI_leI (a := 2) (b := N) (by omega) (by omega)).mpr zq))
    refine lv_iconst (v := 1) hx hb dX1_isLineFree_33 (by decide) ?_
    exact r_zret CF hr hlk hH hS rfl dX1_isLineFree_34 ⟨by unfold lfr; rw [hN]; rcases (show N = 0 ∨ N = 1 by omega) with q | q <;> subst q <;> simp [cnt, blk, b2i], rfl⟩

set_option maxRecDepth 100000 in
set_option maxHeartbeats 4000000 in
theorem c_X1_sees (l : Launch) (G : Gm) (σ : Sg) (pr pc r c : Nat) (h1 : pr < 10) (h2 : pc < 16) (h3 : r < 10) (h4 : c < 16) (hh : hB (σ 22) (σ 23 0)) : Met l yX1_sees wsX1_sees (rmO 2 56) (PP G [.ref (G.2.1 23), .ref (G.2.1 21), .int (nI pr), .int (nI pc), .int (nI r), .int (nI c)] σ) (QI G (RV (b2i (seesF (σ 22) (cmC σ) pr pc r c)) σ)) 0 0 (fr G) := by
  refine r_start (cc := cX1_sees) (maxL := 9) (ret := (some .boolean)) (by decide) rfl (Nat.le_of_ble_eq_true rfl) ?_
  intro pz ez sz mz below meth cz ls CF hr hlk hK hH hS hl
  have CF : CallFix pz mz cz cX1_sees 9 sz (List.toArray [.ref (G.2.1 23), .ref (G.2.1 21), .int (nI pr), .int (nI pc), .int (nI r), .int (nI c)]) wsX1_sees RX1 := CF
  have hx := CF.1
  have hb := CF.2.1
  have hown := CF.2.2.2.1
  have hts := CF.2.2.2.2
  have hl : lv_has ls 9 [(0, .ref (G.2.1 23)), (1, .ref (G.2.1 21)), (2, .int (nI pr)), (3, .int (nI pc)), (4, .int (nI r)), (5, .int (nI c))] := hl
  have K1 := hts _ (List.mem_of_getElem? (i := 1) rfl)
  have K2 := hts _ (List.mem_of_getElem? (i := 2) rfl)
  have K3 := hts _ (List.mem_of_getElem? (i := 3) rfl)
  have K4 := hts _ (List.mem_of_getElem? (i := 4) rfl)
  have K5 := hts _ (List.mem_of_getElem? (i := 5) rfl)
  have K6 := hts _ (List.mem_of_getElem? (i := 6) rfl)
  have K7 := hts _ (List.mem_of_getElem? (i := 7) rfl)
  have K8 := hts _ (List.mem_of_getElem? (i := 8) rfl)
  have JX1 : ∀ w ∈ wsX10, w ∈ wsX1_sees := in_r _ [27, 28, 29, 30] (by decide +kernel)
  have hg := hh.1 (16 * r + c) (by omega)
  have hga := hh.2
  have key : 0 < σ 23 0 - σ 22 (16 * r + c) ↔ σ 22 (16 * r + c) < σ 23 0 := by revert hg hga; generalize σ 22 (16 * r + c) = x; generalize σ 23 0 = y; intro hg hga; grind
  refine lv_aload_n hx hb dX1_sees_0 rfl (lv_at hl 0 rfl) ?_
  refine r_get CF hK hH 23 (Nat.le_of_ble_eq_true rfl) rfl rfl JX1 0 (by decide) K1 rfl dX1_sees_1 ?_
  refine lv_aload_n hx hb dX1_sees_4 rfl (lv_at hl 1 rfl) ?_
  refine lv_iload hx hb dX1_sees_5 (lv_at hl 4 rfl) ?_
  refine lv_iload hx hb dX1_sees_7 (lv_at hl 5 rfl) ?_
  refine r_cR hS (r_runV (n := 2) (As := [.int (nI r), .int (nI c)]) (rest := [.int (σ 23 0)]) CF hK hH (c_X7_heightAt l G σ r c (by omega) (by omega)) gX1_sees_X7_heightAt rfl rfl rfl rfl (by decide +kernel) ⟨⟨Nat.le_of_ble_eq_true rfl, Nat.le_of_ble_eq_true rfl⟩, Nat.le_of_ble_eq_true rfl, Nat.le_of_ble_eq_true rfl⟩ 21 rfl (Nat.le_of_ble_eq_true rfl) rfl rfl rfl hl.1 rfl (Nat.le_of_ble_eq_true rfl) dX1_sees_9) (fun H locs hH hS => ?_)
  refine lv_isub hx hb dX1_sees_12 ?_
  refine lv_istore (lv' := [(6, .int ((σ 23 0) - (σ 22 (16 * r + c)))), (0, .ref (G.2.1 23)), (1, .ref (G.2.1 21)), (2, .int (nI pr)), (3, .int (nI pc)), (4, .int (nI r)), (5, .int (nI c))]) hx hb dX1_sees_13 hl (by decide) rfl (fun ls hl => ?_)
  refine lv_iload hx hb dX1_sees_15 (lv_at hl 0 rfl) ?_
  refine lv_if_gt (tgt := 22) hx hb dX1_sees_17 (by decide) (fun c17 => ?_) (fun c17 => ?_)
  · refine lv_iload hx hb dX1_sees_22 (lv_at hl 5 rfl) ?_
    refine lv_iload_n hx hb dX1_sees_24 rfl (lv_at hl 3 rfl) ?_
    refine lv_isub hx hb dX1_sees_25 ?_
    refine lv_istore (lv' := [(7, .int ((nI r) - (nI pr))), (6, .int ((σ 23 0) - (σ 22 (16 * r + c)))), (0, .ref (G.2.1 23)), (1, .ref (G.2.1 21)), (2, .int (nI pr)), (3, .int (nI pc)), (4, .int (nI r)), (5, .int (nI c))]) hx hb dX1_sees_26 hl (by decide) rfl (fun ls hl => ?_)
    refine lv_iload hx hb dX1_sees_28 (lv_at hl 7 rfl) ?_
    refine lv_iload_n hx hb dX1_sees_30 rfl (lv_at hl 5 rfl) ?_
    refine lv_isub hx hb dX1_sees_31 ?_
    refine lv_istore (lv' := [(8, .int ((nI c) - (nI pc))), (7, .int ((nI r) - (nI pr))), (6, .int ((σ 23 0) - (σ 22 (16 * r + c)))), (0, .ref (G.2.1 23)), (1, .ref (G.2.1 21)), (2, .int (nI pr)), (3, .int (nI pc)), (4, .int (nI r)), (5, .int (nI c))]) hx hb dX1_sees_32 hl (by decide) rfl (fun ls hl => ?_)
    refine lv_bipush (v := 100) hx hb dX1_sees_34 (by decide) ?_
    refine lv_iload hx hb dX1_sees_36 (lv_at hl 0 rfl) ?_
    refine lv_imul hx hb dX1_sees_38 ?_
    refine lv_aload_n hx hb dX1_sees_39 rfl (lv_at hl 3 rfl) ?_
    refine r_get CF hK hH 23 (Nat.le_of_ble_eq_true rfl) rfl rfl JX1 3 (by decide) K2 rfl dX1_sees_40 ?_
    refine lv_iload hx hb dX1_sees_43 (lv_at hl 1 rfl) ?_
    refine lv_imul hx hb dX1_sees_45 ?_
    refine lv_iadd hx hb dX1_sees_46 ?_
    refine va_mabs hx hb (by rw [CF.2.2.1]; exact hl.1.symm) hown K3 K4 K5 K6 (Nat.le_of_ble_eq_true rfl) (Nat.le_of_ble_eq_true rfl) (Nat.le_of_ble_eq_true rfl) (Nat.le_of_ble_eq_true rfl) dX1_sees_47 ?_
    refine r_top (show ((if 0 ≤ (((100 : Int32) * ((nI c) - (nI pc))) + ((σ 23 3) * ((nI r) - (nI pr)))) then (((100 : Int32) * ((nI c) - (nI pc))) + ((σ 23 3) * ((nI r) - (nI pr)))) else 0 - (((100 : Int32) * ((nI c) - (nI pc))) + ((σ 23 3) * ((nI r) - (nI pr))))) : Int32) = ab ((100 : Int32) * (nI c - nI pc) + σ 23 3 * (nI r - nI pr)) from ab_m _) ?_
    refine lv_iload hx hb dX1_sees_50 (lv_at hl 2 rfl) ?_
    refine lv_aload_n hx hb dX1_sees_52 rfl (lv_at hl 3 rfl) ?_
    refine r_get CF hK hH 23 (Nat.le_of_ble_eq_true rfl) rfl rfl JX1 1 (by decide) K7 rfl dX1_sees_53 ?_
    refine lv_imul hx hb dX1_sees_56 ?_
    refine lv_bipush (v := 10) hx hb dX1_sees_57 (by decide) ?_
    refine lv_idiv hx hb dX1_sees_59 (by decide) ?_
    refine lv_icmp_gt (tgt := 110) hx hb dX1_sees_60 (by decide) (fun c60 => ?_) (fun c60 => ?_)
    · refine lv_iconst (v := 0) hx hb dX1_sees_110 (by decide) ?_
      exact r_zret CF hr hlk hH hS rfl dX1_sees_111 ⟨by simp [seesF, cmC, b2i, ← key, c17, c60], rfl⟩
    · refine lv_bipush (v := 100) hx hb dX1_sees_63 (by decide) ?_
      refine lv_iload hx hb dX1_sees_65 (lv_at hl 1 rfl) ?_
      refine lv_imul hx hb dX1_sees_67 ?_
      refine lv_aload_n hx hb dX1_sees_68 rfl (lv_at hl 3 rfl) ?_
      refine r_get CF hK hH 23 (Nat.le_of_ble_eq_true rfl) rfl rfl JX1 3 (by decide) K2 rfl dX1_sees_69 ?_
      refine lv_iload hx hb dX1_sees_72 (lv_at hl 0 rfl) ?_
      refine lv_imul hx hb dX1_sees_74 ?_
      refine lv_isub hx hb dX1_sees_75 ?_
      refine va_mabs hx hb (by rw [CF.2.2.1]; exact hl.1.symm) hown K3 K4 K5 K6 (Nat.le_of_ble_eq_true rfl) (Nat.le_of_ble_eq_true rfl) (Nat.le_of_ble_eq_true rfl) (Nat.le_of_ble_eq_true rfl) dX1_sees_76 ?_
      refine r_top (show ((if 0 ≤ (((100 : Int32) * ((nI r) - (nI pr))) - ((σ 23 3) * ((nI c) - (nI pc)))) then (((100 : Int32) * ((nI r) - (nI pr))) - ((σ 23 3) * ((nI c) - (nI pc)))) else 0 - (((100 : Int32) * ((nI r) - (nI pr))) - ((σ 23 3) * ((nI c) - (nI pc))))) : Int32) = ab ((100 : Int32) * (nI r - nI pr) - σ 23 3 * (nI c - nI pc)) from ab_m _) ?_
      refine lv_iload hx hb dX1_sees_79 (lv_at hl 2 rfl) ?_
      refine lv_aload_n hx hb dX1_sees_81 rfl (lv_at hl 3 rfl) ?_
      refine r_get CF hK hH 23 (Nat.le_of_ble_eq_true rfl) rfl rfl JX1 2 (by decide) K8 rfl dX1_sees_82 ?_
      refine lv_imul hx hb dX1_sees_85 ?_
      refine lv_bipush (v := 10) hx hb dX1_sees_86 (by decide) ?_
      refine lv_idiv hx hb dX1_sees_88 (by decide) ?_
      refine lv_icmp_gt (tgt := 110) hx hb dX1_sees_89 (by decide) (fun c89 => ?_) (fun c89 => ?_)
      · refine lv_iconst (v := 0) hx hb dX1_sees_110 (by decide) ?_
        exact r_zret CF hr hlk hH hS rfl dX1_sees_111 ⟨by simp [seesF, cmC, b2i, ← key, c17, c60, c89], rfl⟩
      · refine lv_aload_n hx hb dX1_sees_92 rfl (lv_at hl 3 rfl) ?_
        refine lv_aload_n hx hb dX1_sees_93 rfl (lv_at hl 4 rfl) ?_
        refine lv_iload_n hx hb dX1_sees_94 rfl (lv_at hl 5 rfl) ?_
        refine lv_iload_n hx hb dX1_sees_95 rfl (lv_at hl 6 rfl) ?_
        refine lv_iload hx hb dX1_sees_96 (lv_at hl 7 rfl) ?_
        refine lv_iload hx hb dX1_sees_98 (lv_at hl 8 rfl) ?_
        refine r_cR hS (r_runV (n := 5) (As := [.ref (G.2.1 21), .int (nI pr), .int (nI pc), .int (nI r), .int (nI c)]) (rest := []) CF hK hH (c_X1_isLineFree l G σ pr pc r c h1 h2 h3 h4) gX1_sees_X1_isLineFree rfl rfl rfl rfl (by decide +kernel) ⟨⟨Nat.le_of_ble_eq_true rfl, Nat.le_of_ble_eq_true rfl⟩, Nat.le_of_ble_eq_true rfl, Nat.le_of_ble_eq_true rfl⟩ 23 rfl (Nat.le_of_ble_eq_true rfl) rfl rfl rfl hl.1 rfl (Nat.le_of_ble_eq_true rfl) dX1_sees_100) (fun H locs hH hS => ?_)
        refine r_ifeqB (tgt := 110) hx hb dX1_sees_103 (by decide) (fun c103 => ?_) (fun c103 => ?_)
        · refine lv_iconst (v := 0) hx hb dX1_sees_110 (by decide) ?_
          exact r_zret CF hr hlk hH hS rfl dX1_sees_111 ⟨by simp [seesF, cmC, b2i, ← key, c17, c60, c89, c103], rfl⟩
        · refine lv_iconst (v := 1) hx hb dX1_sees_106 (by decide) ?_
          refine lv_goto (tgt := 111) hx hb dX1_sees_107 (by decide) ?_
          exact r_zret CF hr hlk hH hS rfl dX1_sees_111 ⟨by simp [seesF, cmC, b2i, ← key, c17, c60, c89, c103], rfl⟩
  · refine lv_iconst (v := 0) hx hb dX1_sees_20 (by decide) ?_
    exact r_zret CF hr hlk hH hS rfl dX1_sees_21 ⟨by simp [seesF, cmC, b2i, ← key, c17], rfl⟩
