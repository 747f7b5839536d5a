def BX5 (h0 : Nat) : va_W → List (ClassId × FieldType) → Prop := fun w ty => w = [(h0, .inr (5, [.int 0, .int 0, .int 0, .int 0]))] ∧ ty = []
set_option maxRecDepth 100000 in
set_option maxHeartbeats 8000000 in
theorem c_X5_init (l : Launch) (D : va_G) (h0 sz : Nat) : Met l yX5_init wsX5_init ({ frames := 1, cells := 0, slots := 0, locals := 20 } : Room) (IPc D [(h0, .inr (5, [.int 0, .int 0, .int 0, .int 0]))] h0 sz) (IQc D [(h0, .inr (5, [.int 0, .int 0, .int 0, .int 0]))] sz (BX5 h0)) 0 0 (va_A [(h0, .inr (5, [.int 0, .int 0, .int 0, .int 0]))] sz) := by
  refine i_start (cc := cX5_init) (maxL := 1) (by decide) rfl rfl (by decide) ?_
  intro pz ez sz' mz below meth cz ls CF hr hlk hin hKI hK hsz hP hD hS hA hl
  have CF : CallFix pz mz cz cX5_init 1 sz' (List.toArray [Value.ref h0]) wsX5_init RX5 := CF
  have hx := CF.1
  have hb := CF.2.1
  have hown := CF.2.2.2.1
  have hts := CF.2.2.2.2
  have hin : meth.name = "<init>" := hin
  have K1 := hts _ (List.mem_of_getElem? (i := 1) rfl)
  have K2 := hts _ (List.mem_of_getElem? (i := 2) rfl)
  have K3 := hts _ (List.mem_of_getElem? (i := 3) rfl)
  refine lv_aload_n hx hb dX5_init_0 rfl (lv_at hl 0 rfl) ?_
  refine W.objInit hx hb hown K1 K2 K3 rfl (by rw [CF.2.2.1]; exact hl.1) rfl dX5_init_1 (Nat.le_of_ble_eq_true rfl) (Nat.le_of_ble_eq_true rfl) ?_
  refine W.eq (g2 := F0 mz 4 ls []) rfl ?_
  exact i_ret hx hb hr hlk hK hP hD hS dX5_init_4 ⟨rfl, rfl⟩

def BX2 (h0 : Nat) : va_W → List (ClassId × FieldType) → Prop := fun w ty => w = [(h0, .inr (2, [.int 0, .int 0, .int 0]))] ∧ ty = []
set_option maxRecDepth 100000 in
set_option maxHeartbeats 8000000 in
theorem c_X2_init (l : Launch) (D : va_G) (h0 sz : Nat) : Met l yX2_init wsX2_init ({ frames := 1, cells := 0, slots := 0, locals := 20 } : Room) (IPc D [(h0, .inr (2, [.int 0, .int 0, .int 0]))] h0 sz) (IQc D [(h0, .inr (2, [.int 0, .int 0, .int 0]))] sz (BX2 h0)) 0 0 (va_A [(h0, .inr (2, [.int 0, .int 0, .int 0]))] sz) := by
  refine i_start (cc := cX2_init) (maxL := 1) (by decide) rfl rfl (by decide) ?_
  intro pz ez sz' mz below meth cz ls CF hr hlk hin hKI hK hsz hP hD hS hA hl
  have CF : CallFix pz mz cz cX2_init 1 sz' (List.toArray [Value.ref h0]) wsX2_init RX2 := CF
  have hx := CF.1
  have hb := CF.2.1
  have hown := CF.2.2.2.1
  have hts := CF.2.2.2.2
  have hin : meth.name = "<init>" := hin
  have K1 := hts _ (List.mem_of_getElem? (i := 1) rfl)
  have K2 := hts _ (List.mem_of_getElem? (i := 2) rfl)
  have K3 := hts _ (List.mem_of_getElem? (i := 3) rfl)
  refine lv_aload_n hx hb dX2_init_0 rfl (lv_at hl 0 rfl) ?_
  refine W.objInit hx hb hown K1 K2 K3 rfl (by rw [CF.2.2.1]; exact hl.1) rfl dX2_init_1 (Nat.le_of_ble_eq_true rfl) (Nat.le_of_ble_eq_true rfl) ?_
  refine W.eq (g2 := F0 mz 4 ls []) rfl ?_
  exact i_ret hx hb hr hlk hK hP hD hS dX2_init_4 ⟨rfl, rfl⟩

def BX1 (h0 : Nat) : va_W → List (ClassId × FieldType) → Prop := fun w ty => w = [(h0, .inr (1, [.int 1000, .int 3, .int 2, .int 0]))] ∧ ty = []
set_option maxRecDepth 100000 in
set_option maxHeartbeats 8000000 in
theorem c_X1_init (l : Launch) (D : va_G) (h0 sz : Nat) : Met l yX1_init wsX1_init ({ frames := 1, cells := 0, slots := 0, locals := 20 } : Room) (IPc D [(h0, .inr (1, [.int 0, .int 0, .int 0, .int 0]))] h0 sz) (IQc D [(h0, .inr (1, [.int 0, .int 0, .int 0, .int 0]))] sz (BX1 h0)) 0 0 (va_A [(h0, .inr (1, [.int 0, .int 0, .int 0, .int 0]))] sz) := by
  refine i_start (cc := cX1_init) (maxL := 1) (by decide) rfl rfl (by decide) ?_
  intro pz ez sz' mz below meth cz ls CF hr hlk hin hKI hK hsz hP hD hS hA hl
  have CF : CallFix pz mz cz cX1_init 1 sz' (List.toArray [Value.ref h0]) wsX1_init RX1 := CF
  have hx := CF.1
  have hb := CF.2.1
  have hown := CF.2.2.2.1
  have hts := CF.2.2.2.2
  have hin : meth.name = "<init>" := hin
  have K1 := hts _ (List.mem_of_getElem? (i := 1) rfl)
  have K2 := hts _ (List.mem_of_getElem? (i := 2) rfl)
  have K3 := hts _ (List.mem_of_getElem? (i := 3) rfl)
  have K4 := hts _ (List.mem_of_getElem? (i := 4) rfl)
  have K5 := hts _ (List.mem_of_getElem? (i := 5) rfl)
  have K6 := hts _ (List.mem_of_getElem? (i := 6) rfl)
  have K7 := hts _ (List.mem_of_getElem? (i := 7) rfl)
  have JX1 : ∀ w ∈ wsX10, w ∈ wsX1_init := in_r _ [8, 9, 10, 11] (by decide +kernel)
  refine lv_aload_n hx hb dX1_init_0 rfl (lv_at hl 0 rfl) ?_
  refine W.objInit hx hb hown K1 K2 K3 rfl (by rw [CF.2.2.1]; exact hl.1) rfl dX1_init_1 (Nat.le_of_ble_eq_true rfl) (Nat.le_of_ble_eq_true rfl) ?_
  refine W.eq (g2 := F0 mz 4 ls []) rfl ?_
  refine lv_aload_n hx hb dX1_init_4 rfl (lv_at hl 0 rfl) ?_
  refine lv_sipush (v := 1000) hx hb dX1_init_5 (by decide) ?_
  refine va_put (D := D) (ci := 1) (v := .int 1000) (ty := .int) (C := RX1) (T := TX1) (N := 4) hx hb hts JX1 tyX1 tyX1_ok nmX1 hown hK hP hD hS 0 rfl rfl 0 (by decide) K4 (fun _ h9 => h9) rfl (by decide +kernel) rfl rfl (Nat.le_of_ble_eq_true rfl) dX1_init_8 (fun H locs hP hD hS => ?_)
  have hP : va_P D vwCl [(h0, .inr (1, [.int 1000, .int 0, .int 0, .int 0]))] H := hP
  have hD : va_D (va_A [(h0, .inr (1, [.int 0, .int 0, .int 0, .int 0]))] sz) [(h0, .inr (1, [.int 1000, .int 0, .int 0, .int 0]))] := hD
  refine lv_aload_n hx hb dX1_init_11 rfl (lv_at hl 0 rfl) ?_
  refine lv_iconst (v := 3) hx hb dX1_init_12 (by decide) ?_
  refine va_put (D := D) (ci := 1) (v := .int 3) (ty := .int) (C := RX1) (T := TX1) (N := 4) hx hb hts JX1 tyX1 tyX1_ok nmX1 hown hK hP hD hS 0 rfl rfl 1 (by decide) K5 (fun _ h9 => h9) rfl (by decide +kernel) rfl rfl (Nat.le_of_ble_eq_true rfl) dX1_init_13 (fun H locs hP hD hS => ?_)
  have hP : va_P D vwCl [(h0, .inr (1, [.int 1000, .int 3, .int 0, .int 0]))] H := hP
  have hD : va_D (va_A [(h0, .inr (1, [.int 0, .int 0, .int 0, .int 0]))] sz) [(h0, .inr (1, [.int 1000, .int 3, .int 0, .int 0]))] := hD
  refine lv_aload_n hx hb dX1_init_16 rfl (lv_at hl 0 rfl) ?_
  refine lv_iconst (v := 2) hx hb dX1_init_17 (by decide) ?_
  refine va_put (D := D) (ci := 1) (v := .int 2) (ty := .int) (C := RX1) (T := TX1) (N := 4) hx hb hts JX1 tyX1 tyX1_ok nmX1 hown hK hP hD hS 0 rfl rfl 2 (by decide) K6 (fun _ h9 => h9) rfl (by decide +kernel) rfl rfl (Nat.le_of_ble_eq_true rfl) dX1_init_18 (fun H locs hP hD hS => ?_)
  have hP : va_P D vwCl [(h0, .inr (1, [.int 1000, .int 3, .int 2, .int 0]))] H := hP
  have hD : va_D (va_A [(h0, .inr (1, [.int 0, .int 0, .int 0, .int 0]))] sz) [(h0, .inr (1, [.int 1000, .int 3, .int 2, .int 0]))] := hD
  refine lv_aload_n hx hb dX1_init_21 rfl (lv_at hl 0 rfl) ?_
  refine lv_iconst (v := 0) hx hb dX1_init_22 (by decide) ?_
  refine va_put (D := D) (ci := 1) (v := .int 0) (ty := .int) (C := RX1) (T := TX1) (N := 4) hx hb hts JX1 tyX1 tyX1_ok nmX1 hown hK hP hD hS 0 rfl rfl 3 (by decide) K7 (fun _ h9 => h9) rfl (by decide +kernel) rfl rfl (Nat.le_of_ble_eq_true rfl) dX1_init_23 (fun H locs hP hD hS => ?_)
  have hP : va_P D vwCl [(h0, .inr (1, [.int 1000, .int 3, .int 2, .int 0]))] H := hP
  have hD : va_D (va_A [(h0, .inr (1, [.int 0, .int 0, .int 0, .int 0]))] sz) [(h0, .inr (1, [.int 1000, .int 3, .int 2, .int 0]))] := hD
  exact i_ret hx hb hr hlk hK hP hD hS dX1_init_26 ⟨rfl, rfl⟩

def BX0 (h0 : Nat) : va_W → List (ClassId × FieldType) → Prop := fun w ty => w = [(h0, .inr (0, [.int 100, .int 0, .int 60]))] ∧ ty = []
set_option maxRecDepth 100000 in
set_option maxHeartbeats 8000000 in
theorem c_X0_init (l : Launch) (D : va_G) (h0 sz : Nat) : Met l yX0_init wsX0_init ({ frames := 1, cells := 0, slots := 0, locals := 20 } : Room) (IPc D [(h0, .inr (0, [.int 0, .int 0, .int 0]))] h0 sz) (IQc D [(h0, .inr (0, [.int 0, .int 0, .int 0]))] sz (BX0 h0)) 0 0 (va_A [(h0, .inr (0, [.int 0, .int 0, .int 0]))] sz) := by
  refine i_start (cc := cX0_init) (maxL := 1) (by decide) rfl rfl (by decide) ?_
  intro pz ez sz' mz below meth cz ls CF hr hlk hin hKI hK hsz hP hD hS hA hl
  have CF : CallFix pz mz cz cX0_init 1 sz' (List.toArray [Value.ref h0]) wsX0_init RX0 := CF
  have hx := CF.1
  have hb := CF.2.1
  have hown := CF.2.2.2.1
  have hts := CF.2.2.2.2
  have hin : meth.name = "<init>" := hin
  have K1 := hts _ (List.mem_of_getElem? (i := 1) rfl)
  have K2 := hts _ (List.mem_of_getElem? (i := 2) rfl)
  have K3 := hts _ (List.mem_of_getElem? (i := 3) rfl)
  have K4 := hts _ (List.mem_of_getElem? (i := 4) rfl)
  have K5 := hts _ (List.mem_of_getElem? (i := 5) rfl)
  have K6 := hts _ (List.mem_of_getElem? (i := 6) rfl)
  have JX0 : ∀ w ∈ wsX00, w ∈ wsX0_init := in_r _ [7, 8, 9] (by decide +kernel)
  refine lv_aload_n hx hb dX0_init_0 rfl (lv_at hl 0 rfl) ?_
  refine W.objInit hx hb hown K1 K2 K3 rfl (by rw [CF.2.2.1]; exact hl.1) rfl dX0_init_1 (Nat.le_of_ble_eq_true rfl) (Nat.le_of_ble_eq_true rfl) ?_
  refine W.eq (g2 := F0 mz 4 ls []) rfl ?_
  refine lv_aload_n hx hb dX0_init_4 rfl (lv_at hl 0 rfl) ?_
  refine lv_bipush (v := 100) hx hb dX0_init_5 (by decide) ?_
  refine va_put (D := D) (ci := 0) (v := .int 100) (ty := .int) (C := RX0) (T := TX0) (N := 3) hx hb hts JX0 tyX0 tyX0_ok nmX0 hown hK hP hD hS 0 rfl rfl 0 (by decide) K4 (fun _ h9 => h9) rfl (by decide +kernel) rfl rfl (Nat.le_of_ble_eq_true rfl) dX0_init_7 (fun H locs hP hD hS => ?_)
  have hP : va_P D vwCl [(h0, .inr (0, [.int 100, .int 0, .int 0]))] H := hP
  have hD : va_D (va_A [(h0, .inr (0, [.int 0, .int 0, .int 0]))] sz) [(h0, .inr (0, [.int 100, .int 0, .int 0]))] := hD
  refine lv_aload_n hx hb dX0_init_10 rfl (lv_at hl 0 rfl) ?_
  refine lv_iconst (v := 0) hx hb dX0_init_11 (by decide) ?_
  refine va_put (D := D) (ci := 0) (v := .int 0) (ty := .int) (C := RX0) (T := TX0) (N := 3) hx hb hts JX0 tyX0 tyX0_ok nmX0 hown hK hP hD hS 0 rfl rfl 1 (by decide) K5 (fun _ h9 => h9) rfl (by decide +kernel) rfl rfl (Nat.le_of_ble_eq_true rfl) dX0_init_12 (fun H locs hP hD hS => ?_)
  have hP : va_P D vwCl [(h0, .inr (0, [.int 100, .int 0, .int 0]))] H := hP
  have hD : va_D (va_A [(h0, .inr (0, [.int 0, .int 0, .int 0]))] sz) [(h0, .inr (0, [.int 100, .int 0, .int 0]))] := hD
  refine lv_aload_n hx hb dX0_init_15 rfl (lv_at hl 0 rfl) ?_
  refine lv_bipush (v := 60) hx hb dX0_init_16 (by decide) ?_
  refine va_put (D := D) (ci := 0) (v := .int 60) (ty := .int) (C := RX0) (T := TX0) (N := 3) hx hb hts JX0 tyX0 tyX0_ok nmX0 hown hK hP hD hS 0 rfl rfl 2 (by decide) K6 (fun _ h9 => h9) rfl (by decide +kernel) rfl rfl (Nat.le_of_ble_eq_true rfl) dX0_init_18 (fun H locs hP hD hS => ?_)
  have hP : va_P D vwCl [(h0, .inr (0, [.int 100, .int 0, .int 60]))] H := hP
  have hD : va_D (va_A [(h0, .inr (0, [.int 0, .int 0, .int 0]))] sz) [(h0, .inr (0, [.int 100, .int 0, .int 60]))] := hD
  exact i_ret hx hb hr hlk hK hP hD hS dX0_init_21 ⟨rfl, rfl⟩

def BX7 (h0 : Nat) : va_W → List (ClassId × FieldType) → Prop := fun w ty => ∃ (q : Nat) (cA : ClassId), w = [(h0, .inr (7, [.int 6, .int 10, .ref q])), (q, .inl (cA, 160, .inl (fun _ => 0)))] ∧ ty = [(cA, .int)]
set_option maxRecDepth 100000 in
set_option maxHeartbeats 8000000 in
theorem c_X7_init (l : Launch) (D : va_G) (h0 sz : Nat) : Met l yX7_init wsX7_init ({ frames := 1, cells := 1, slots := 160, locals := 20 } : Room) (IPc D [(h0, .inr (7, [.int 0, .int 0, .null]))] h0 sz) (IQc D [(h0, .inr (7, [.int 0, .int 0, .null]))] sz (BX7 h0)) 1 160 (va_A [(h0, .inr (7, [.int 0, .int 0, .null]))] sz) := by
  refine i_start (cc := cX7_init) (maxL := 1) (by decide) rfl rfl (by decide) ?_
  intro pz ez sz' mz below meth cz ls CF hr hlk hin hKI hK hsz hP hD hS hA hl
  have CF : CallFix pz mz cz cX7_init 1 sz' (List.toArray [Value.ref h0]) wsX7_init RX7 := CF
  have hx := CF.1
  have hb := CF.2.1
  have hown := CF.2.2.2.1
  have hts := CF.2.2.2.2
  have hin : meth.name = "<init>" := hin
  have K1 := hts _ (List.mem_of_getElem? (i := 1) rfl)
  have K2 := hts _ (List.mem_of_getElem? (i := 2) rfl)
  have K3 := hts _ (List.mem_of_getElem? (i := 3) rfl)
  have K4 := hts _ (List.mem_of_getElem? (i := 4) rfl)
  have K5 := hts _ (List.mem_of_getElem? (i := 5) rfl)
  have K6 := hts _ (List.mem_of_getElem? (i := 6) rfl)
  have K7 := hts _ (List.mem_of_getElem? (i := 7) rfl)
  have JX7 : ∀ w ∈ wsX70, w ∈ wsX7_init := in_r _ [8, 9, 10] (by decide +kernel)
  refine lv_aload_n hx hb dX7_init_0 rfl (lv_at hl 0 rfl) ?_
  refine W.objInit hx hb hown K1 K2 K3 rfl (by rw [CF.2.2.1]; exact hl.1) rfl dX7_init_1 (Nat.le_of_ble_eq_true rfl) (Nat.le_of_ble_eq_true rfl) ?_
  refine W.eq (g2 := F0 mz 4 ls []) rfl ?_
  refine lv_aload_n hx hb dX7_init_4 rfl (lv_at hl 0 rfl) ?_
  refine lv_bipush (v := 6) hx hb dX7_init_5 (by decide) ?_
  refine va_put (D := D) (ci := 7) (v := .int 6) (ty := .int) (C := RX7) (T := TX7) (N := 3) hx hb hts JX7 tyX7 tyX7_ok nmX7 hown hK hP hD hS 0 rfl rfl 0 (by decide) K4 (fun _ h9 => h9) rfl (by decide +kernel) rfl rfl (Nat.le_of_ble_eq_true rfl) dX7_init_7 (fun H locs hP hD hS => ?_)
  have hP : va_P D vwCl [(h0, .inr (7, [.int 6, .int 0, .null]))] H := hP
  have hD : va_D (va_A [(h0, .inr (7, [.int 0, .int 0, .null]))] sz) [(h0, .inr (7, [.int 6, .int 0, .null]))] := hD
  refine lv_aload_n hx hb dX7_init_10 rfl (lv_at hl 0 rfl) ?_
  refine lv_bipush (v := 10) hx hb dX7_init_11 (by decide) ?_
  refine va_put (D := D) (ci := 7) (v := .int 10) (ty := .int) (C := RX7) (T := TX7) (N := 3) hx hb hts JX7 tyX7 tyX7_ok nmX7 hown hK hP hD hS 0 rfl rfl 1 (by decide) K5 (fun _ h9 => h9) rfl (by decide +kernel) rfl rfl (Nat.le_of_ble_eq_true rfl) dX7_init_13 (fun H locs hP hD hS => ?_)
  have hP : va_P D vwCl [(h0, .inr (7, [.int 6, .int 10, .null]))] H := hP
  have hD : va_D (va_A [(h0, .inr (7, [.int 0, .int 0, .null]))] sz) [(h0, .inr (7, [.int 6, .int 10, .null]))] := hD
  refine lv_aload_n hx hb dX7_init_16 rfl (lv_at hl 0 rfl) ?_
  refine lv_sipush (v := 160) hx hb dX7_init_17 (by decide) ?_
  refine va_newa (atype := .int) (a0 := (160, .inl (fun _ => 0))) hx hb K6 rfl hK hP hD hS hA (fun _ => rfl) (by decide) rfl (by decide) (Nat.le_of_ble_eq_true rfl) (Nat.le_of_ble_eq_true rfl) dX7_init_20 (fun q20_0 cA20_0 H hK hP hD hS => ?_)
  have hP : va_P D vwCl [(h0, .inr (7, [.int 6, .int 10, .null])), (q20_0, .inl (cA20_0, 160, .inl (fun _ => 0)))] H := hP
  have hD : va_D (va_A [(h0, .inr (7, [.int 0, .int 0, .null]))] sz) [(h0, .inr (7, [.int 6, .int 10, .null])), (q20_0, .inl (cA20_0, 160, .inl (fun _ => 0)))] := hD
  have hK : va_K D vwCl [(cA20_0, .int)] sz' := hK
  refine W.widen (k := 1) (n := 160) (Nat.le_of_ble_eq_true rfl) (Nat.le_of_ble_eq_true rfl) ?_
  refine va_putF (D := D) (ci := 7) (v := .ref q20_0) (ty := .array .int) (C := RX7) (T := TX7) (N := 3) hx hb hts JX7 tyX7 tyX7_ok nmX7 hown hK hP hD hS 0 rfl rfl 2 (by decide) K7 (fun _ h9 => h9) rfl hin rfl (by decide +kernel) rfl rfl (Nat.le_of_ble_eq_true rfl) dX7_init_22 (fun H locs hP hD hS => ?_)
  have hP : va_P D vwCl [(h0, .inr (7, [.int 6, .int 10, .ref q20_0])), (q20_0, .inl (cA20_0, 160, .inl (fun _ => 0)))] H := hP
  have hD : va_D (va_A [(h0, .inr (7, [.int 0, .int 0, .null]))] sz) [(h0, .inr (7, [.int 6, .int 10, .ref q20_0])), (q20_0, .inl (cA20_0, 160, .inl (fun _ => 0)))] := hD
  exact i_ret hx hb hr hlk hK hP hD hS dX7_init_25 ⟨_, _, rfl, rfl⟩

def BX4 (h0 : Nat) : va_W → List (ClassId × FieldType) → Prop := fun w ty => ∃ (q : Nat) (cA : ClassId), w = [(h0, .inr (4, [.ref q, .int 0, .int 0])), (q, .inl (cA, 4096, .inl (fun _ => 0)))] ∧ ty = [(cA, .int)]
set_option maxRecDepth 100000 in
set_option maxHeartbeats 8000000 in
theorem c_X4_init (l : Launch) (D : va_G) (h0 sz : Nat) : Met l yX4_init wsX4_init ({ frames := 1, cells := 1, slots := 4096, locals := 20 } : Room) (IPc D [(h0, .inr (4, [.null, .int 0, .int 0]))] h0 sz) (IQc D [(h0, .inr (4, [.null, .int 0, .int 0]))] sz (BX4 h0)) 1 4096 (va_A [(h0, .inr (4, [.null, .int 0, .int 0]))] sz) := by
  refine i_start (cc := cX4_init) (maxL := 1) (by decide) rfl rfl (by decide) ?_
  intro pz ez sz' mz below meth cz ls CF hr hlk hin hKI hK hsz hP hD hS hA hl
  have CF : CallFix pz mz cz cX4_init 1 sz' (List.toArray [Value.ref h0]) wsX4_init RX4 := CF
  have hx := CF.1
  have hb := CF.2.1
  have hown := CF.2.2.2.1
  have hts := CF.2.2.2.2
  have hin : meth.name = "<init>" := hin
  have K1 := hts _ (List.mem_of_getElem? (i := 1) rfl)
  have K2 := hts _ (List.mem_of_getElem? (i := 2) rfl)
  have K3 := hts _ (List.mem_of_getElem? (i := 3) rfl)
  have K4 := hts _ (List.mem_of_getElem? (i := 4) rfl)
  have K5 := hts _ (List.mem_of_getElem? (i := 5) rfl)
  have JX4 : ∀ w ∈ wsX40, w ∈ wsX4_init := in_r _ [6, 7, 8] (by decide +kernel)
  refine lv_aload_n hx hb dX4_init_0 rfl (lv_at hl 0 rfl) ?_
  refine W.objInit hx hb hown K1 K2 K3 rfl (by rw [CF.2.2.1]; exact hl.1) rfl dX4_init_1 (Nat.le_of_ble_eq_true rfl) (Nat.le_of_ble_eq_true rfl) ?_
  refine W.eq (g2 := F0 mz 4 ls []) rfl ?_
  refine lv_aload_n hx hb dX4_init_4 rfl (lv_at hl 0 rfl) ?_
  refine lv_sipush (v := 4096) hx hb dX4_init_5 (by decide) ?_
  refine va_newa (atype := .int) (a0 := (4096, .inl (fun _ => 0))) hx hb K4 rfl hK hP hD hS hA (fun _ => rfl) (by decide) rfl (by decide) (Nat.le_of_ble_eq_true rfl) (Nat.le_of_ble_eq_true rfl) dX4_init_8 (fun q8_0 cA8_0 H hK hP hD hS => ?_)
  have hP : va_P D vwCl [(h0, .inr (4, [.null, .int 0, .int 0])), (q8_0, .inl (cA8_0, 4096, .inl (fun _ => 0)))] H := hP
  have hD : va_D (va_A [(h0, .inr (4, [.null, .int 0, .int 0]))] sz) [(h0, .inr (4, [.null, .int 0, .int 0])), (q8_0, .inl (cA8_0, 4096, .inl (fun _ => 0)))] := hD
  have hK : va_K D vwCl [(cA8_0, .int)] sz' := hK
  refine W.widen (k := 1) (n := 4096) (Nat.le_of_ble_eq_true rfl) (Nat.le_of_ble_eq_true rfl) ?_
  refine va_putF (D := D) (ci := 4) (v := .ref q8_0) (ty := .array .int) (C := RX4) (T := TX4) (N := 3) hx hb hts JX4 tyX4 tyX4_ok nmX4 hown hK hP hD hS 0 rfl rfl 0 (by decide) K5 (fun _ h9 => h9) rfl hin rfl (by decide +kernel) rfl rfl (Nat.le_of_ble_eq_true rfl) dX4_init_10 (fun H locs hP hD hS => ?_)
  have hP : va_P D vwCl [(h0, .inr (4, [.ref q8_0, .int 0, .int 0])), (q8_0, .inl (cA8_0, 4096, .inl (fun _ => 0)))] H := hP
  have hD : va_D (va_A [(h0, .inr (4, [.null, .int 0, .int 0]))] sz) [(h0, .inr (4, [.ref q8_0, .int 0, .int 0])), (q8_0, .inl (cA8_0, 4096, .inl (fun _ => 0)))] := hD
  exact i_ret hx hb hr hlk hK hP hD hS dX4_init_13 ⟨_, _, rfl, rfl⟩

theorem vpq_congr (cA : ClassId) {n : Nat} {f g : Nat → Option Nat} (h : ∀ j, j < n → f j = g j) : vp_cell cA (n, .inr (.inr (.inr (.inr f)))) = vp_cell cA (n, .inr (.inr (.inr (.inr g)))) := by
  rw [vp_cell_q, vp_cell_q]
  unfold arrV
  congr 2
  funext j
  show va_rf (f j.val) = va_rf (g j.val)
  rw [h j.val j.isLt]

def BX6 (h0 : Nat) : va_W → List (ClassId × FieldType) → Prop := fun w ty => ∃ (q : Nat) (cA : ClassId) (qs : Nat → Nat), w = [(h0, .inr (6, [.int 0, .ref q])), (q, .inl (cA, 8, .inr (.inr (.inr (.inr (fun i => some (qs i))))))), ((qs 0), .inr (5, [.int 0, .int 0, .int 0, .int 0])), ((qs 1), .inr (5, [.int 0, .int 0, .int 0, .int 0])), ((qs 2), .inr (5, [.int 0, .int 0, .int 0, .int 0])), ((qs 3), .inr (5, [.int 0, .int 0, .int 0, .int 0])), ((qs 4), .inr (5, [.int 0, .int 0, .int 0, .int 0])), ((qs 5), .inr (5, [.int 0, .int 0, .int 0, .int 0])), ((qs 6), .inr (5, [.int 0, .int 0, .int 0, .int 0])), ((qs 7), .inr (5, [.int 0, .int 0, .int 0, .int 0]))] ∧ ty = [(cA, .object RX5)]
set_option maxRecDepth 100000 in
set_option maxHeartbeats 8000000 in
theorem c_X6_init (l : Launch) (D : va_G) (h0 sz : Nat) : Met l yX6_init wsX6_init ({ frames := 2, cells := 9, slots := 40, locals := 40 } : Room) (IPc D [(h0, .inr (6, [.int 0, .null]))] h0 sz) (IQc D [(h0, .inr (6, [.int 0, .null]))] sz (BX6 h0)) 9 40 (va_A [(h0, .inr (6, [.int 0, .null]))] sz) := by
  refine i_start (cc := cX6_init) (maxL := 2) (by decide) rfl rfl (by decide) ?_
  intro pz ez sz' mz below meth cz ls CF hr hlk hin hKI hK hsz hP hD hS hA hl
  have CF : CallFix pz mz cz cX6_init 2 sz' (List.toArray [Value.ref h0]) wsX6_init RX6 := CF
  have hx := CF.1
  have hb := CF.2.1
  have hown := CF.2.2.2.1
  have hts := CF.2.2.2.2
  have hin : meth.name = "<init>" := hin
  have K1 := hts _ (List.mem_of_getElem? (i := 1) rfl)
  have K2 := hts _ (List.mem_of_getElem? (i := 2) rfl)
  have K3 := hts _ (List.mem_of_getElem? (i := 3) rfl)
  have K4 := hts _ (List.mem_of_getElem? (i := 4) rfl)
  have K5 := hts _ (List.mem_of_getElem? (i := 5) rfl)
  have K6 := hts _ (List.mem_of_getElem? (i := 6) rfl)
  have K7 := hts _ (List.mem_of_getElem? (i := 7) rfl)
  have K8 := hts _ (List.mem_of_getElem? (i := 8) rfl)
  have JX5 : ∀ w ∈ wsX50, w ∈ wsX6_init := in_r _ [13, 14, 15, 16] (by decide +kernel)
  have JX6 : ∀ w ∈ wsX60, w ∈ wsX6_init := in_r _ [11, 12] (by decide +kernel)
  refine lv_aload_n hx hb dX6_init_0 rfl (lv_at hl 0 rfl) ?_
  refine W.objInit hx hb hown K1 K2 K3 rfl (by rw [CF.2.2.1]; exact hl.1) rfl dX6_init_1 (Nat.le_of_ble_eq_true rfl) (Nat.le_of_ble_eq_true rfl) ?_
  refine W.eq (g2 := F0 mz 4 ls []) rfl ?_
  refine lv_aload_n hx hb dX6_init_4 rfl (lv_at hl 0 rfl) ?_
  refine lv_bipush (v := 8) hx hb dX6_init_5 (by decide) ?_
  refine va_newq hx hb hown K4 hKI.1 hK hP hD hS hA (by decide) rfl (by decide) (Nat.le_of_ble_eq_true rfl) (Nat.le_of_ble_eq_true rfl) dX6_init_7 (fun q7_0 cA7_0 H hK hP hD hS => ?_)
  have hP : va_P D vwCl [(h0, .inr (6, [.int 0, .null])), (q7_0, .inl (cA7_0, 8, .inr (.inr (.inr (.inr (fun _ => none))))))] H := hP
  have hD : va_D (va_A [(h0, .inr (6, [.int 0, .null]))] sz) [(h0, .inr (6, [.int 0, .null])), (q7_0, .inl (cA7_0, 8, .inr (.inr (.inr (.inr (fun _ => none))))))] := hD
  have hK : va_K D vwCl [(cA7_0, .object RX5)] sz' := hK
  refine W.widen (k := 1) (n := 8) (Nat.le_of_ble_eq_true rfl) (Nat.le_of_ble_eq_true rfl) ?_
  refine va_putF (D := D) (ci := 6) (v := .ref q7_0) (ty := .array (.object "AerialSurvey$Strip")) (C := RX6) (T := TX6) (N := 2) hx hb hts JX6 tyX6 tyX6_ok nmX6 hown hK hP hD hS 0 rfl rfl 1 (by decide) K5 (fun _ h9 => h9) rfl hin rfl (by decide +kernel) rfl rfl (Nat.le_of_ble_eq_true rfl) dX6_init_10 (fun H locs hP hD hS => ?_)
  have hP : va_P D vwCl [(h0, .inr (6, [.int 0, .ref q7_0])), (q7_0, .inl (cA7_0, 8, .inr (.inr (.inr (.inr (fun _ => none))))))] H := hP
  have hD : va_D (va_A [(h0, .inr (6, [.int 0, .null]))] sz) [(h0, .inr (6, [.int 0, .ref q7_0])), (q7_0, .inl (cA7_0, 8, .inr (.inr (.inr (.inr (fun _ => none))))))] := hD
  refine lv_iconst (v := 0) hx hb dX6_init_13 (by decide) ?_
  refine lv_istore_n (lv' := [(1, .int 0), (0, .ref h0)]) hx hb dX6_init_14 rfl hl (by decide) rfl (fun ls hl => ?_)
  refine lv_iload_n hx hb dX6_init_15 rfl (lv_at hl 0 rfl) ?_
  refine lv_aload_n hx hb dX6_init_16 rfl (lv_at hl 1 rfl) ?_
  refine va_get (D := D) (ci := 6) (v := .ref q7_0) (C := RX6) (T := TX6) (N := 2) hx hb hts JX6 hown hK hP 0 rfl rfl 1 (by decide) K5 (fun _ h9 => h9) rfl dX6_init_17 ?_
  refine va_alen hx hb hK hP 1 0 rfl rfl (v := 8) rfl dX6_init_20 ?_
  refine lv_icmp_ge (tgt := 43) hx hb dX6_init_21 (by decide) (fun cc => absurd cc (by decide)) (fun cc => ?_)
  refine lv_aload_n hx hb dX6_init_24 rfl (lv_at hl 1 rfl) ?_
  refine va_get (D := D) (ci := 6) (v := .ref q7_0) (C := RX6) (T := TX6) (N := 2) hx hb hts JX6 hown hK hP 0 rfl rfl 1 (by decide) K5 (fun _ h9 => h9) rfl dX6_init_25 ?_
  refine lv_iload_n hx hb dX6_init_28 rfl (lv_at hl 0 rfl) ?_
  refine va_new (ci := 5) (fs := [.int 0, .int 0, .int 0, .int 0]) (C := RX5) (T := TX5) (N := 4) hx hb hts JX5 tyX5 tyX5_ok hown K4 K6 K7 hK hP hD hS hA rfl (fun j hj => match j, hj with | 0, _ => rfl | 1, _ => rfl | 2, _ => rfl | 3, _ => rfl | n + 4, h => absurd h (by omega)) (Nat.le_of_ble_eq_true rfl) (Nat.le_of_ble_eq_true rfl) dX6_init_29 (fun q29_1 H hP hD hS => ?_)
  have hP : va_P D vwCl [(h0, .inr (6, [.int 0, .ref q7_0])), (q7_0, .inl (cA7_0, 8, .inr (.inr (.inr (.inr (fun _ => none)))))), (q29_1, .inr (5, [.int 0, .int 0, .int 0, .int 0]))] H := hP
  have hD : va_D (va_A [(h0, .inr (6, [.int 0, .null]))] sz) [(h0, .inr (6, [.int 0, .ref q7_0])), (q7_0, .inl (cA7_0, 8, .inr (.inr (.inr (.inr (fun _ => none)))))), (q29_1, .inr (5, [.int 0, .int 0, .int 0, .int 0]))] := hD
  refine W.widen (k := 2) (n := 12) (Nat.le_of_ble_eq_true rfl) (Nat.le_of_ble_eq_true rfl) ?_
  refine lv_dup hx hb dX6_init_32 rfl ?_
  refine i_goes (B := BX5 q29_1) (wr := [(h0, .inr (6, [.int 0, .ref q7_0])), (q7_0, .inl (cA7_0, 8, .inr (.inr (.inr (.inr (fun _ => none))))))]) hK hP hD hS hA 2 [0, 1] rfl rfl (by decide) (by decide) (va_runIN (As := []) (rest := [.ref q29_1, .int 0, .ref q7_0]) CF (c_X5_init l D q29_1 H.size) ⟨va_cnB 0 hts gX6_init_X5_init_n17 rfl rfl rfl hKI.2.1 K7 (by decide +kernel) ⟨(Nat.le_of_ble_eq_true rfl), (Nat.le_of_ble_eq_true rfl)⟩, rfl, K8⟩ (i_pre hKI hK hP hD 2 rfl) rfl rfl hl.1 rfl (lv_room (Nat.le_of_ble_eq_true rfl)) dX6_init_33 ⟨(Nat.le_of_ble_eq_true rfl), (Nat.le_of_ble_eq_true rfl)⟩) (fun w1 ty1 H locs hB hP hD hK hS => ?_)
  obtain ⟨rfl, rfl⟩ := hB
  have hP : va_P D vwCl [(h0, .inr (6, [.int 0, .ref q7_0])), (q7_0, .inl (cA7_0, 8, .inr (.inr (.inr (.inr (fun _ => none)))))), (q29_1, .inr (5, [.int 0, .int 0, .int 0, .int 0]))] H := hP
  have hD : va_D (va_A [(h0, .inr (6, [.int 0, .null]))] sz) [(h0, .inr (6, [.int 0, .ref q7_0])), (q7_0, .inl (cA7_0, 8, .inr (.inr (.inr (.inr (fun _ => none)))))), (q29_1, .inr (5, [.int 0, .int 0, .int 0, .int 0]))] := hD
  have hK : va_K D vwCl [(cA7_0, .object RX5)] sz' := hK
  refine W.widen (k := 2) (n := 12) (Nat.le_of_ble_eq_true rfl) (Nat.le_of_ble_eq_true rfl) ?_
  refine va_astq hx hb hK hP hD hS 1 0 2 5 rfl rfl rfl rfl (vp_in_nI (n := 0) (by decide) (by decide)) dX6_init_36 (fun H locs hP hD hS => ?_)
  have hP : va_P D vwCl [(h0, .inr (6, [.int 0, .ref q7_0])), (q7_0, .inl (cA7_0, 8, .inr (.inr (.inr (.inr (va_up (fun _ => none) 0 (some q29_1))))))), (q29_1, .inr (5, [.int 0, .int 0, .int 0, .int 0]))] H := hP
  have hD : va_D (va_A [(h0, .inr (6, [.int 0, .null]))] sz) [(h0, .inr (6, [.int 0, .ref q7_0])), (q7_0, .inl (cA7_0, 8, .inr (.inr (.inr (.inr (va_up (fun _ => none) 0 (some q29_1))))))), (q29_1, .inr (5, [.int 0, .int 0, .int 0, .int 0]))] := hD
  refine lv_iinc (v := 1) (lv' := [(1, .int 1), (0, .ref h0)]) hx hb dX6_init_37 hl (k := 0) rfl (by decide) (by decide) rfl (fun ls hl => ?_)
  refine lv_goto (tgt := 15) hx hb dX6_init_40 (by decide) ?_
  refine lv_iload_n hx hb dX6_init_15 rfl (lv_at hl 0 rfl) ?_
  refine lv_aload_n hx hb dX6_init_16 rfl (lv_at hl 1 rfl) ?_
  refine va_get (D := D) (ci := 6) (v := .ref q7_0) (C := RX6) (T := TX6) (N := 2) hx hb hts JX6 hown hK hP 0 rfl rfl 1 (by decide) K5 (fun _ h9 => h9) rfl dX6_init_17 ?_
  refine va_alen hx hb hK hP 1 0 rfl rfl (v := 8) rfl dX6_init_20 ?_
  refine lv_icmp_ge (tgt := 43) hx hb dX6_init_21 (by decide) (fun cc => absurd cc (by decide)) (fun cc => ?_)
  refine lv_aload_n hx hb dX6_init_24 rfl (lv_at hl 1 rfl) ?_
  refine va_get (D := D) (ci := 6) (v := .ref q7_0) (C := RX6) (T := TX6) (N := 2) hx hb hts JX6 hown hK hP 0 rfl rfl 1 (by decide) K5 (fun _ h9 => h9) rfl dX6_init_25 ?_
  refine lv_iload_n hx hb dX6_init_28 rfl (lv_at hl 0 rfl) ?_
  refine va_new (ci := 5) (fs := [.int 0, .int 0, .int 0, .int 0]) (C := RX5) (T := TX5) (N := 4) hx hb hts JX5 tyX5 tyX5_ok hown K4 K6 K7 hK hP hD hS hA rfl (fun j hj => match j, hj with | 0, _ => rfl | 1, _ => rfl | 2, _ => rfl | 3, _ => rfl | n + 4, h => absurd h (by omega)) (Nat.le_of_ble_eq_true rfl) (Nat.le_of_ble_eq_true rfl) dX6_init_29 (fun q29_3 H hP hD hS => ?_)
  have hP : va_P D vwCl [(h0, .inr (6, [.int 0, .ref q7_0])), (q7_0, .inl (cA7_0, 8, .inr (.inr (.inr (.inr (va_up (fun _ => none) 0 (some q29_1))))))), (q29_1, .inr (5, [.int 0, .int 0, .int 0, .int 0])), (q29_3, .inr (5, [.int 0, .int 0, .int 0, .int 0]))] H := hP
  have hD : va_D (va_A [(h0, .inr (6, [.int 0, .null]))] sz) [(h0, .inr (6, [.int 0, .ref q7_0])), (q7_0, .inl (cA7_0, 8, .inr (.inr (.inr (.inr (va_up (fun _ => none) 0 (some q29_1))))))), (q29_1, .inr (5, [.int 0, .int 0, .int 0, .int 0])), (q29_3, .inr (5, [.int 0, .int 0, .int 0, .int 0]))] := hD
  refine W.widen (k := 3) (n := 16) (Nat.le_of_ble_eq_true rfl) (Nat.le_of_ble_eq_true rfl) ?_
  refine lv_dup hx hb dX6_init_32 rfl ?_
  refine i_goes (B := BX5 q29_3) (wr := [(h0, .inr (6, [.int 0, .ref q7_0])), (q7_0, .inl (cA7_0, 8, .inr (.inr (.inr (.inr (va_up (fun _ => none) 0 (some q29_1))))))), (q29_1, .inr (5, [.int 0, .int 0, .int 0, .int 0]))]) hK hP hD hS hA 3 [0, 1, 2] rfl rfl (by decide) (by decide) (va_runIN (As := []) (rest := [.ref q29_3, .int 1, .ref q7_0]) CF (c_X5_init l D q29_3 H.size) ⟨va_cnB 0 hts gX6_init_X5_init_n17 rfl rfl rfl hKI.2.1 K7 (by decide +kernel) ⟨(Nat.le_of_ble_eq_true rfl), (Nat.le_of_ble_eq_true rfl)⟩, rfl, K8⟩ (i_pre hKI hK hP hD 3 rfl) rfl rfl hl.1 rfl (lv_room (Nat.le_of_ble_eq_true rfl)) dX6_init_33 ⟨(Nat.le_of_ble_eq_true rfl), (Nat.le_of_ble_eq_true rfl)⟩) (fun w1 ty1 H locs hB hP hD hK hS => ?_)
  obtain ⟨rfl, rfl⟩ := hB
  have hP : va_P D vwCl [(h0, .inr (6, [.int 0, .ref q7_0])), (q7_0, .inl (cA7_0, 8, .inr (.inr (.inr (.inr (va_up (fun _ => none) 0 (some q29_1))))))), (q29_1, .inr (5, [.int 0, .int 0, .int 0, .int 0])), (q29_3, .inr (5, [.int 0, .int 0, .int 0, .int 0]))] H := hP
  have hD : va_D (va_A [(h0, .inr (6, [.int 0, .null]))] sz) [(h0, .inr (6, [.int 0, .ref q7_0])), (q7_0, .inl (cA7_0, 8, .inr (.inr (.inr (.inr (va_up (fun _ => none) 0 (some q29_1))))))), (q29_1, .inr (5, [.int 0, .int 0, .int 0, .int 0])), (q29_3, .inr (5, [.int 0, .int 0, .int 0, .int 0]))] := hD
  have hK : va_K D vwCl [(cA7_0, .object RX5)] sz' := hK
  refine W.widen (k := 3) (n := 16) (Nat.le_of_ble_eq_true rfl) (Nat.le_of_ble_eq_true rfl) ?_
  refine va_astq hx hb hK hP hD hS 1 0 3 5 rfl rfl rfl rfl (vp_in_nI (n := 1) (by decide) (by decide)) dX6_init_36 (fun H locs hP hD hS => ?_)
  have hP : va_P D vwCl [(h0, .inr (6, [.int 0, .ref q7_0])), (q7_0, .inl (cA7_0, 8, .inr (.inr (.inr (.inr (va_up (va_up (fun _ => none) 0 (some q29_1)) 1 (some q29_3))))))), (q29_1, .inr (5, [.int 0, .int 0, .int 0, .int 0])), (q29_3, .inr (5, [.int 0, .int 0, .int 0, .int 0]))] H := hP
  have hD : va_D (va_A [(h0, .inr (6, [.int 0, .null]))] sz) [(h0, .inr (6, [.int 0, .ref q7_0])), (q7_0, .inl (cA7_0, 8, .inr (.inr (.inr (.inr (va_up (va_up (fun _ => none) 0 (some q29_1)) 1 (some q29_3))))))), (q29_1, .inr (5, [.int 0, .int 0, .int 0, .int 0])), (q29_3, .inr (5, [.int 0, .int 0, .int 0, .int 0]))] := hD
  refine lv_iinc (v := 2) (lv' := [(1, .int 2), (0, .ref h0)]) hx hb dX6_init_37 hl (k := 0) rfl (by decide) (by decide) rfl (fun ls hl => ?_)
  refine lv_goto (tgt := 15) hx hb dX6_init_40 (by decide) ?_
  refine lv_iload_n hx hb dX6_init_15 rfl (lv_at hl 0 rfl) ?_
  refine lv_aload_n hx hb dX6_init_16 rfl (lv_at hl 1 rfl) ?_
  refine va_get (D := D) (ci := 6) (v := .ref q7_0) (C := RX6) (T := TX6) (N := 2) hx hb hts JX6 hown hK hP 0 rfl rfl 1 (by decide) K5 (fun _ h9 => h9) rfl dX6_init_17 ?_
  refine va_alen hx hb hK hP 1 0 rfl rfl (v := 8) rfl dX6_init_20 ?_
  refine lv_icmp_ge (tgt := 43) hx hb dX6_init_21 (by decide) (fun cc => absurd cc (by decide)) (fun cc => ?_)
  refine lv_aload_n hx hb dX6_init_24 rfl (lv_at hl 1 rfl) ?_
  refine va_get (D := D) (ci := 6) (v := .ref q7_0) (C := RX6) (T := TX6) (N := 2) hx hb hts JX6 hown hK hP 0 rfl rfl 1 (by decide) K5 (fun _ h9 => h9) rfl dX6_init_25 ?_
  refine lv_iload_n hx hb dX6_init_28 rfl (lv_at hl 0 rfl) ?_
  refine va_new (ci := 5) (fs := [.int 0, .int 0, .int 0, .int 0]) (C := RX5) (T := TX5) (N := 4) hx hb hts JX5 tyX5 tyX5_ok hown K4 K6 K7 hK hP hD hS hA rfl (fun j hj => match j, hj with | 0, _ => rfl | 1, _ => rfl | 2, _ => rfl | 3, _ => rfl | n + 4, h => absurd h (by omega)) (Nat.le_of_ble_eq_true rfl) (Nat.le_of_ble_eq_true rfl) dX6_init_29 (fun q29_5 H hP hD hS => ?_)
  have hP : va_P D vwCl [(h0, .inr (6, [.int 0, .ref q7_0])), (q7_0, .inl (cA7_0, 8, .inr (.inr (.inr (.inr (va_up (va_up (fun _ => none) 0 (some q29_1)) 1 (some q29_3))))))), (q29_1, .inr (5, [.int 0, .int 0, .int 0, .int 0])), (q29_3, .inr (5, [.int 0, .int 0, .int 0, .int 0])), (q29_5, .inr (5, [.int 0, .int 0, .int 0, .int 0]))] H := hP
  have hD : va_D (va_A [(h0, .inr (6, [.int 0, .null]))] sz) [(h0, .inr (6, [.int 0, .ref q7_0])), (q7_0, .inl (cA7_0, 8, .inr (.inr (.inr (.inr (va_up (va_up (fun _ => none) 0 (some q29_1)) 1 (some q29_3))))))), (q29_1, .inr (5, [.int 0, .int 0, .int 0, .int 0])), (q29_3, .inr (5, [.int 0, .int 0, .int 0, .int 0])), (q29_5, .inr (5, [.int 0, .int 0, .int 0, .int 0]))] := hD
  refine W.widen (k := 4) (n := 20) (Nat.le_of_ble_eq_true rfl) (Nat.le_of_ble_eq_true rfl) ?_
  refine lv_dup hx hb dX6_init_32 rfl ?_
  refine i_goes (B := BX5 q29_5) (wr := [(h0, .inr (6, [.int 0, .ref q7_0])), (q7_0, .inl (cA7_0, 8, .inr (.inr (.inr (.inr (va_up (va_up (fun _ => none) 0 (some q29_1)) 1 (some q29_3))))))), (q29_1, .inr (5, [.int 0, .int 0, .int 0, .int 0])), (q29_3, .inr (5, [.int 0, .int 0, .int 0, .int 0]))]) hK hP hD hS hA 4 [0, 1, 2, 3] rfl rfl (by decide) (by decide) (va_runIN (As := []) (rest := [.ref q29_5, .int 2, .ref q7_0]) CF (c_X5_init l D q29_5 H.size) ⟨va_cnB 0 hts gX6_init_X5_init_n17 rfl rfl rfl hKI.2.1 K7 (by decide +kernel) ⟨(Nat.le_of_ble_eq_true rfl), (Nat.le_of_ble_eq_true rfl)⟩, rfl, K8⟩ (i_pre hKI hK hP hD 4 rfl) rfl rfl hl.1 rfl (lv_room (Nat.le_of_ble_eq_true rfl)) dX6_init_33 ⟨(Nat.le_of_ble_eq_true rfl), (Nat.le_of_ble_eq_true rfl)⟩) (fun w1 ty1 H locs hB hP hD hK hS => ?_)
  obtain ⟨rfl, rfl⟩ := hB
  have hP : va_P D vwCl [(h0, .inr (6, [.int 0, .ref q7_0])), (q7_0, .inl (cA7_0, 8, .inr (.inr (.inr (.inr (va_up (va_up (fun _ => none) 0 (some q29_1)) 1 (some q29_3))))))), (q29_1, .inr (5, [.int 0, .int 0, .int 0, .int 0])), (q29_3, .inr (5, [.int 0, .int 0, .int 0, .int 0])), (q29_5, .inr (5, [.int 0, .int 0, .int 0, .int 0]))] H := hP
  have hD : va_D (va_A [(h0, .inr (6, [.int 0, .null]))] sz) [(h0, .inr (6, [.int 0, .ref q7_0])), (q7_0, .inl (cA7_0, 8, .inr (.inr (.inr (.inr (va_up (va_up (fun _ => none) 0 (some q29_1)) 1 (some q29_3))))))), (q29_1, .inr (5, [.int 0, .int 0, .int 0, .int 0])), (q29_3, .inr (5, [.int 0, .int 0, .int 0, .int 0])), (q29_5, .inr (5, [.int 0, .int 0, .int 0, .int 0]))] := hD
  have hK : va_K D vwCl [(cA7_0, .object RX5)] sz' := hK
  refine W.widen (k := 4) (n := 20) (Nat.le_of_ble_eq_true rfl) (Nat.le_of_ble_eq_true rfl) ?_
  refine va_astq hx hb hK hP hD hS 1 0 4 5 rfl rfl rfl rfl (vp_in_nI (n := 2) (by decide) (by decide)) dX6_init_36 (fun H locs hP hD hS => ?_)
  have hP : va_P D vwCl [(h0, .inr (6, [.int 0, .ref q7_0])), (q7_0, .inl (cA7_0, 8, .inr (.inr (.inr (.inr (va_up (va_up (va_up (fun _ => none) 0 (some q29_1)) 1 (some q29_3)) 2 (some q29_5))))))), (q29_1, .inr (5, [.int 0, .int 0, .int 0, .int 0])), (q29_3, .inr (5, [.int 0, .int 0, .int 0, .int 0])), (q29_5, .inr (5, [.int 0, .int 0, .int 0, .int 0]))] H := hP
  have hD : va_D (va_A [(h0, .inr (6, [.int 0, .null]))] sz) [(h0, .inr (6, [.int 0, .ref q7_0])), (q7_0, .inl (cA7_0, 8, .inr (.inr (.inr (.inr (va_up (va_up (va_up (fun _ => none) 0 (some q29_1)) 1 (some q29_3)) 2 (some q29_5))))))), (q29_1, .inr (5, [.int 0, .int 0, .int 0, .int 0])), (q29_3, .inr (5, [.int 0, .int 0, .int 0, .int 0])), (q29_5, .inr (5, [.int 0, .int 0, .int 0, .int 0]))] := hD
  refine lv_iinc (v := 3) (lv' := [(1, .int 3), (0, .ref h0)]) hx hb dX6_init_37 hl (k := 0) rfl (by decide) (by decide) rfl (fun ls hl => ?_)
  refine lv_goto (tgt := 15) hx hb dX6_init_40 (by decide) ?_
  refine lv_iload_n hx hb dX6_init_15 rfl (lv_at hl 0 rfl) ?_
  refine lv_aload_n hx hb dX6_init_16 rfl (lv_at hl 1 rfl) ?_
  refine va_get (D := D) (ci := 6) (v := .ref q7_0) (C := RX6) (T := TX6) (N := 2) hx hb hts JX6 hown hK hP 0 rfl rfl 1 (by decide) K5 (fun _ h9 => h9) rfl dX6_init_17 ?_
  refine va_alen hx hb hK hP 1 0 rfl rfl (v := 8) rfl dX6_init_20 ?_
  refine lv_icmp_ge (tgt := 43) hx hb dX6_init_21 (by decide) (fun cc => absurd cc (by decide)) (fun cc => ?_)
  refine lv_aload_n hx hb dX6_init_24 rfl (lv_at hl 1 rfl) ?_
  refine va_get (D := D) (ci := 6) (v := .ref q7_0) (C := RX6) (T := TX6) (N := 2) hx hb hts JX6 hown hK hP 0 rfl rfl 1 (by decide) K5 (fun _ h9 => h9) rfl dX6_init_25 ?_
  refine lv_iload_n hx hb dX6_init_28 rfl (lv_at hl 0 rfl) ?_
  refine va_new (ci := 5) (fs := [.int 0, .int 0, .int 0, .int 0]) (C := RX5) (T := TX5) (N := 4) hx hb hts JX5 tyX5 tyX5_ok hown K4 K6 K7 hK hP hD hS hA rfl (fun j hj => match j, hj with | 0, _ => rfl | 1, _ => rfl | 2, _ => rfl | 3, _ => rfl | n + 4, h => absurd h (by omega)) (Nat.le_of_ble_eq_true rfl) (Nat.le_of_ble_eq_true rfl) dX6_init_29 (fun q29_7 H hP hD hS => ?_)
  have hP : va_P D vwCl [(h0, .inr (6, [.int 0, .ref q7_0])), (q7_0, .inl (cA7_0, 8, .inr (.inr (.inr (.inr (va_up (va_up (va_up (fun _ => none) 0 (some q29_1)) 1 (some q29_3)) 2 (some q29_5))))))), (q29_1, .inr (5, [.int 0, .int 0, .int 0, .int 0])), (q29_3, .inr (5, [.int 0, .int 0, .int 0, .int 0])), (q29_5, .inr (5, [.int 0, .int 0, .int 0, .int 0])), (q29_7, .inr (5, [.int 0, .int 0, .int 0, .int 0]))] H := hP
  have hD : va_D (va_A [(h0, .inr (6, [.int 0, .null]))] sz) [(h0, .inr (6, [.int 0, .ref q7_0])), (q7_0, .inl (cA7_0, 8, .inr (.inr (.inr (.inr (va_up (va_up (va_up (fun _ => none) 0 (some q29_1)) 1 (some q29_3)) 2 (some q29_5))))))), (q29_1, .inr (5, [.int 0, .int 0, .int 0, .int 0])), (q29_3, .inr (5, [.int 0, .int 0, .int 0, .int 0])), (q29_5, .inr (5, [.int 0, .int 0, .int 0, .int 0])), (q29_7, .inr (5, [.int 0, .int 0, .int 0, .int 0]))] := hD
  refine W.widen (k := 5) (n := 24) (Nat.le_of_ble_eq_true rfl) (Nat.le_of_ble_eq_true rfl) ?_
  refine lv_dup hx hb dX6_init_32 rfl ?_
  refine i_goes (B := BX5 q29_7) (wr := [(h0, .inr (6, [.int 0, .ref q7_0])), (q7_0, .inl (cA7_0, 8, .inr (.inr (.inr (.inr (va_up (va_up (va_up (fun _ => none) 0 (some q29_1)) 1 (some q29_3)) 2 (some q29_5))))))), (q29_1, .inr (5, [.int 0, .int 0, .int 0, .int 0])), (q29_3, .inr (5, [.int 0, .int 0, .int 0, .int 0])), (q29_5, .inr (5, [.int 0, .int 0, .int 0, .int 0]))]) hK hP hD hS hA 5 [0, 1, 2, 3, 4] rfl rfl (by decide) (by decide) (va_runIN (As := []) (rest := [.ref q29_7, .int 3, .ref q7_0]) CF (c_X5_init l D q29_7 H.size) ⟨va_cnB 0 hts gX6_init_X5_init_n17 rfl rfl rfl hKI.2.1 K7 (by decide +kernel) ⟨(Nat.le_of_ble_eq_true rfl), (Nat.le_of_ble_eq_true rfl)⟩, rfl, K8⟩ (i_pre hKI hK hP hD 5 rfl) rfl rfl hl.1 rfl (lv_room (Nat.le_of_ble_eq_true rfl)) dX6_init_33 ⟨(Nat.le_of_ble_eq_true rfl), (Nat.le_of_ble_eq_true rfl)⟩) (fun w1 ty1 H locs hB hP hD hK hS => ?_)
  obtain ⟨rfl, rfl⟩ := hB
  have hP : va_P D vwCl [(h0, .inr (6, [.int 0, .ref q7_0])), (q7_0, .inl (cA7_0, 8, .inr (.inr (.inr (.inr (va_up (va_up (va_up (fun _ => none) 0 (some q29_1)) 1 (some q29_3)) 2 (some q29_5))))))), (q29_1, .inr (5, [.int 0, .int 0, .int 0, .int 0])), (q29_3, .inr (5, [.int 0, .int 0, .int 0, .int 0])), (q29_5, .inr (5, [.int 0, .int 0, .int 0, .int 0])), (q29_7, .inr (5, [.int 0, .int 0, .int 0, .int 0]))] H := hP
  have hD : va_D (va_A [(h0, .inr (6, [.int 0, .null]))] sz) [(h0, .inr (6, [.int 0, .ref q7_0])), (q7_0, .inl (cA7_0, 8, .inr (.inr (.inr (.inr (va_up (va_up (va_up (fun _ => none) 0 (some q29_1)) 1 (some q29_3)) 2 (some q29_5))))))), (q29_1, .inr (5, [.int 0, .int 0, .int 0, .int 0])), (q29_3, .inr (5, [.int 0, .int 0, .int 0, .int 0])), (q29_5, .inr (5, [.int 0, .int 0, .int 0, .int 0])), (q29_7, .inr (5, [.int 0, .int 0, .int 0, .int 0]))] := hD
  have hK : va_K D vwCl [(cA7_0, .object RX5)] sz' := hK
  refine W.widen (k := 5) (n := 24) (Nat.le_of_ble_eq_true rfl) (Nat.le_of_ble_eq_true rfl) ?_
  refine va_astq hx hb hK hP hD hS 1 0 5 5 rfl rfl rfl rfl (vp_in_nI (n := 3) (by decide) (by decide)) dX6_init_36 (fun H locs hP hD hS => ?_)
  have hP : va_P D vwCl [(h0, .inr (6, [.int 0, .ref q7_0])), (q7_0, .inl (cA7_0, 8, .inr (.inr (.inr (.inr (va_up (va_up (va_up (va_up (fun _ => none) 0 (some q29_1)) 1 (some q29_3)) 2 (some q29_5)) 3 (some q29_7))))))), (q29_1, .inr (5, [.int 0, .int 0, .int 0, .int 0])), (q29_3, .inr (5, [.int 0, .int 0, .int 0, .int 0])), (q29_5, .inr (5, [.int 0, .int 0, .int 0, .int 0])), (q29_7, .inr (5, [.int 0, .int 0, .int 0, .int 0]))] H := hP
  have hD : va_D (va_A [(h0, .inr (6, [.int 0, .null]))] sz) [(h0, .inr (6, [.int 0, .ref q7_0])), (q7_0, .inl (cA7_0, 8, .inr (.inr (.inr (.inr (va_up (va_up (va_up (va_up (fun _ => none) 0 (some q29_1)) 1 (some q29_3)) 2 (some q29_5)) 3 (some q29_7))))))), (q29_1, .inr (5, [.int 0, .int 0, .int 0, .int 0])), (q29_3, .inr (5, [.int 0, .int 0, .int 0, .int 0])), (q29_5, .inr (5, [.int 0, .int 0, .int 0, .int 0])), (q29_7, .inr (5, [.int 0, .int 0, .int 0, .int 0]))] := hD
  refine lv_iinc (v := 4) (lv' := [(1, .int 4), (0, .ref h0)]) hx hb dX6_init_37 hl (k := 0) rfl (by decide) (by decide) rfl (fun ls hl => ?_)
  refine lv_goto (tgt := 15) hx hb dX6_init_40 (by decide) ?_
  refine lv_iload_n hx hb dX6_init_15 rfl (lv_at hl 0 rfl) ?_
  refine lv_aload_n hx hb dX6_init_16 rfl (lv_at hl 1 rfl) ?_
  refine va_get (D := D) (ci := 6) (v := .ref q7_0) (C := RX6) (T := TX6) (N := 2) hx hb hts JX6 hown hK hP 0 rfl rfl 1 (by decide) K5 (fun _ h9 => h9) rfl dX6_init_17 ?_
  refine va_alen hx hb hK hP 1 0 rfl rfl (v := 8) rfl dX6_init_20 ?_
  refine lv_icmp_ge (tgt := 43) hx hb dX6_init_21 (by decide) (fun cc => absurd cc (by decide)) (fun cc => ?_)
  refine lv_aload_n hx hb dX6_init_24 rfl (lv_at hl 1 rfl) ?_
  refine va_get (D := D) (ci := 6) (v := .ref q7_0) (C := RX6) (T := TX6) (N := 2) hx hb hts JX6 hown hK hP 0 rfl rfl 1 (by decide) K5 (fun _ h9 => h9) rfl dX6_init_25 ?_
  refine lv_iload_n hx hb dX6_init_28 rfl (lv_at hl 0 rfl) ?_
  refine va_new (ci := 5) (fs := [.int 0, .int 0, .int 0, .int 0]) (C := RX5) (T := TX5) (N := 4) hx hb hts JX5 tyX5 tyX5_ok hown K4 K6 K7 hK hP hD hS hA rfl (fun j hj => match j, hj with | 0, _ => rfl | 1, _ => rfl | 2, _ => rfl | 3, _ => rfl | n + 4, h => absurd h (by omega)) (Nat.le_of_ble_eq_true rfl) (Nat.le_of_ble_eq_true rfl) dX6_init_29 (fun q29_9 H hP hD hS => ?_)
  have hP : va_P D vwCl [(h0, .inr (6, [.int 0, .ref q7_0])), (q7_0, .inl (cA7_0, 8, .inr (.inr (.inr (.inr (va_up (va_up (va_up (va_up (fun _ => none) 0 (some q29_1)) 1 (some q29_3)) 2 (some q29_5)) 3 (some q29_7))))))), (q29_1, .inr (5, [.int 0, .int 0, .int 0, .int 0])), (q29_3, .inr (5, [.int 0, .int 0, .int 0, .int 0])), (q29_5, .inr (5, [.int 0, .int 0, .int 0, .int 0])), (q29_7, .inr (5, [.int 0, .int 0, .int 0, .int 0])), (q29_9, .inr (5, [.int 0, .int 0, .int 0, .int 0]))] H := hP
  have hD : va_D (va_A [(h0, .inr (6, [.int 0, .null]))] sz) [(h0, .inr (6, [.int 0, .ref q7_0])), (q7_0, .inl (cA7_0, 8, .inr (.inr (.inr (.inr (va_up (va_up (va_up (va_up (fun _ => none) 0 (some q29_1)) 1 (some q29_3)) 2 (some q29_5)) 3 (some q29_7))))))), (q29_1, .inr (5, [.int 0, .int 0, .int 0, .int 0])), (q29_3, .inr (5, [.int 0, .int 0, .int 0, .int 0])), (q29_5, .inr (5, [.int 0, .int 0, .int 0, .int 0])), (q29_7, .inr (5, [.int 0, .int 0, .int 0, .int 0])), (q29_9, .inr (5, [.int 0, .int 0, .int 0, .int 0]))] := hD
  refine W.widen (k := 6) (n := 28) (Nat.le_of_ble_eq_true rfl) (Nat.le_of_ble_eq_true rfl) ?_
  refine lv_dup hx hb dX6_init_32 rfl ?_
  refine i_goes (B := BX5 q29_9) (wr := [(h0, .inr (6, [.int 0, .ref q7_0])), (q7_0, .inl (cA7_0, 8, .inr (.inr (.inr (.inr (va_up (va_up (va_up (va_up (fun _ => none) 0 (some q29_1)) 1 (some q29_3)) 2 (some q29_5)) 3 (some q29_7))))))), (q29_1, .inr (5, [.int 0, .int 0, .int 0, .int 0])), (q29_3, .inr (5, [.int 0, .int 0, .int 0, .int 0])), (q29_5, .inr (5, [.int 0, .int 0, .int 0, .int 0])), (q29_7, .inr (5, [.int 0, .int 0, .int 0, .int 0]))]) hK hP hD hS hA 6 [0, 1, 2, 3, 4, 5] rfl rfl (by decide) (by decide) (va_runIN (As := []) (rest := [.ref q29_9, .int 4, .ref q7_0]) CF (c_X5_init l D q29_9 H.size) ⟨va_cnB 0 hts gX6_init_X5_init_n17 rfl rfl rfl hKI.2.1 K7 (by decide +kernel) ⟨(Nat.le_of_ble_eq_true rfl), (Nat.le_of_ble_eq_true rfl)⟩, rfl, K8⟩ (i_pre hKI hK hP hD 6 rfl) rfl rfl hl.1 rfl (lv_room (Nat.le_of_ble_eq_true rfl)) dX6_init_33 ⟨(Nat.le_of_ble_eq_true rfl), (Nat.le_of_ble_eq_true rfl)⟩) (fun w1 ty1 H locs hB hP hD hK hS => ?_)
  obtain ⟨rfl, rfl⟩ := hB
  have hP : va_P D vwCl [(h0, .inr (6, [.int 0, .ref q7_0])), (q7_0, .inl (cA7_0, 8, .inr (.inr (.inr (.inr (va_up (va_up (va_up (va_up (fun _ => none) 0 (some q29_1)) 1 (some q29_3)) 2 (some q29_5)) 3 (some q29_7))))))), (q29_1, .inr (5, [.int 0, .int 0, .int 0, .int 0])), (q29_3, .inr (5, [.int 0, .int 0, .int 0, .int 0])), (q29_5, .inr (5, [.int 0, .int 0, .int 0, .int 0])), (q29_7, .inr (5, [.int 0, .int 0, .int 0, .int 0])), (q29_9, .inr (5, [.int 0, .int 0, .int 0, .int 0]))] H := hP
  have hD : va_D (va_A [(h0, .inr (6, [.int 0, .null]))] sz) [(h0, .inr (6, [.int 0, .ref q7_0])), (q7_0, .inl (cA7_0, 8, .inr (.inr (.inr (.inr (va_up (va_up (va_up (va_up (fun _ => none) 0 (some q29_1)) 1 (some q29_3)) 2 (some q29_5)) 3 (some q29_7))))))), (q29_1, .inr (5, [.int 0, .int 0, .int 0, .int 0])), (q29_3, .inr (5, [.int 0, .int 0, .int 0, .int 0])), (q29_5, .inr (5, [.int 0, .int 0, .int 0, .int 0])), (q29_7, .inr (5, [.int 0, .int 0, .int 0, .int 0])), (q29_9, .inr (5, [.int 0, .int 0, .int 0, .int 0]))] := hD
  have hK : va_K D vwCl [(cA7_0, .object RX5)] sz' := hK
  refine W.widen (k := 6) (n := 28) (Nat.le_of_ble_eq_true rfl) (Nat.le_of_ble_eq_true rfl) ?_
  refine va_astq hx hb hK hP hD hS 1 0 6 5 rfl rfl rfl rfl (vp_in_nI (n := 4) (by decide) (by decide)) dX6_init_36 (fun H locs hP hD hS => ?_)
  have hP : va_P D vwCl [(h0, .inr (6, [.int 0, .ref q7_0])), (q7_0, .inl (cA7_0, 8, .inr (.inr (.inr (.inr (va_up (va_up (va_up (va_up (va_up (fun _ => none) 0 (some q29_1)) 1 (some q29_3)) 2 (some q29_5)) 3 (some q29_7)) 4 (some q29_9))))))), (q29_1, .inr (5, [.int 0, .int 0, .int 0, .int 0])), (q29_3, .inr (5, [.int 0, .int 0, .int 0, .int 0])), (q29_5, .inr (5, [.int 0, .int 0, .int 0, .int 0])), (q29_7, .inr (5, [.int 0, .int 0, .int 0, .int 0])), (q29_9, .inr (5, [.int 0, .int 0, .int 0, .int 0]))] H := hP
  have hD : va_D (va_A [(h0, .inr (6, [.int 0, .null]))] sz) [(h0, .inr (6, [.int 0, .ref q7_0])), (q7_0, .inl (cA7_0, 8, .inr (.inr (.inr (.inr (va_up (va_up (va_up (va_up (va_up (fun _ => none) 0 (some q29_1)) 1 (some q29_3)) 2 (some q29_5)) 3 (some q29_7)) 4 (some q29_9))))))), (q29_1, .inr (5, [.int 0, .int 0, .int 0, .int 0])), (q29_3, .inr (5, [.int 0, .int 0, .int 0, .int 0])), (q29_5, .inr (5, [.int 0, .int 0, .int 0, .int 0])), (q29_7, .inr (5, [.int 0, .int 0, .int 0, .int 0])), (q29_9, .inr (5, [.int 0, .int 0, .int 0, .int 0]))] := hD
  refine lv_iinc (v := 5) (lv' := [(1, .int 5), (0, .ref h0)]) hx hb dX6_init_37 hl (k := 0) rfl (by decide) (by decide) rfl (fun ls hl => ?_)
  refine lv_goto (tgt := 15) hx hb dX6_init_40 (by decide) ?_
  refine lv_iload_n hx hb dX6_init_15 rfl (lv_at hl 0 rfl) ?_
  refine lv_aload_n hx hb dX6_init_16 rfl (lv_at hl 1 rfl) ?_
  refine va_get (D := D) (ci := 6) (v := .ref q7_0) (C := RX6) (T := TX6) (N := 2) hx hb hts JX6 hown hK hP 0 rfl rfl 1 (by decide) K5 (fun _ h9 => h9) rfl dX6_init_17 ?_
  refine va_alen hx hb hK hP 1 0 rfl rfl (v := 8) rfl dX6_init_20 ?_
  refine lv_icmp_ge (tgt := 43) hx hb dX6_init_21 (by decide) (fun cc => absurd cc (by decide)) (fun cc => ?_)
  refine lv_aload_n hx hb dX6_init_24 rfl (lv_at hl 1 rfl) ?_
  refine va_get (D := D) (ci := 6) (v := .ref q7_0) (C := RX6) (T := TX6) (N := 2) hx hb hts JX6 hown hK hP 0 rfl rfl 1 (by decide) K5 (fun _ h9 => h9) rfl dX6_init_25 ?_
  refine lv_iload_n hx hb dX6_init_28 rfl (lv_at hl 0 rfl) ?_
  refine va_new (ci := 5) (fs := [.int 0, .int 0, .int 0, .int 0]) (C := RX5) (T := TX5) (N := 4) hx hb hts JX5 tyX5 tyX5_ok hown K4 K6 K7 hK hP hD hS hA rfl (fun j hj => match j, hj with | 0, _ => rfl | 1, _ => rfl | 2, _ => rfl | 3, _ => rfl | n + 4, h => absurd h (by omega)) (Nat.le_of_ble_eq_true rfl) (Nat.le_of_ble_eq_true rfl) dX6_init_29 (fun q29_11 H hP hD hS => ?_)
  have hP : va_P D vwCl [(h0, .inr (6, [.int 0, .ref q7_0])), (q7_0, .inl (cA7_0, 8, .inr (.inr (.inr (.inr (va_up (va_up (va_up (va_up (va_up (fun _ => none) 0 (some q29_1)) 1 (some q29_3)) 2 (some q29_5)) 3 (some q29_7)) 4 (some q29_9))))))), (q29_1, .inr (5, [.int 0, .int 0, .int 0, .int 0])), (q29_3, .inr (5, [.int 0, .int 0, .int 0, .int 0])), (q29_5, .inr (5, [.int 0, .int 0, .int 0, .int 0])), (q29_7, .inr (5, [.int 0, .int 0, .int 0, .int 0])), (q29_9, .inr (5, [.int 0, .int 0, .int 0, .int 0])), (q29_11, .inr (5, [.int 0, .int 0, .int 0, .int 0]))] H := hP
  have hD : va_D (va_A [(h0, .inr (6, [.int 0, .null]))] sz) [(h0, .inr (6, [.int 0, .ref q7_0])), (q7_0, .inl (cA7_0, 8, .inr (.inr (.inr (.inr (va_up (va_up (va_up (va_up (va_up (fun _ => none) 0 (some q29_1)) 1 (some q29_3)) 2 (some q29_5)) 3 (some q29_7)) 4 (some q29_9))))))), (q29_1, .inr (5, [.int 0, .int 0, .int 0, .int 0])), (q29_3, .inr (5, [.int 0, .int 0, .int 0, .int 0])), (q29_5, .inr (5, [.int 0, .int 0, .int 0, .int 0])), (q29_7, .inr (5, [.int 0, .int 0, .int 0, .int 0])), (q29_9, .inr (5, [.int 0, .int 0, .int 0, .int 0])), (q29_11, .inr (5, [.int 0, .int 0, .int 0, .int 0]))] := hD
  refine W.widen (k := 7) (n := 32) (Nat.le_of_ble_eq_true rfl) (Nat.le_of_ble_eq_true rfl) ?_
  refine lv_dup hx hb dX6_init_32 rfl ?_
  refine i_goes (B := BX5 q29_11) (wr := [(h0, .inr (6, [.int 0, .ref q7_0])), (q7_0, .inl (cA7_0, 8, .inr (.inr (.inr (.inr (va_up (va_up (va_up (va_up (va_up (fun _ => none) 0 (some q29_1)) 1 (some q29_3)) 2 (some q29_5)) 3 (some q29_7)) 4 (some q29_9))))))), (q29_1, .inr (5, [.int 0, .int 0, .int 0, .int 0])), (q29_3, .inr (5, [.int 0, .int 0, .int 0, .int 0])), (q29_5, .inr (5, [.int 0, .int 0, .int 0, .int 0])), (q29_7, .inr (5, [.int 0, .int 0, .int 0, .int 0])), (q29_9, .inr (5, [.int 0, .int 0, .int 0, .int 0]))]) hK hP hD hS hA 7 [0, 1, 2, 3, 4, 5, 6] rfl rfl (by decide) (by decide) (va_runIN (As := []) (rest := [.ref q29_11, .int 5, .ref q7_0]) CF (c_X5_init l D q29_11 H.size) ⟨va_cnB 0 hts gX6_init_X5_init_n17 rfl rfl rfl hKI.2.1 K7 (by decide +kernel) ⟨(Nat.le_of_ble_eq_true rfl), (Nat.le_of_ble_eq_true rfl)⟩, rfl, K8⟩ (i_pre hKI hK hP hD 7 rfl) rfl rfl hl.1 rfl (lv_room (Nat.le_of_ble_eq_true rfl)) dX6_init_33 ⟨(Nat.le_of_ble_eq_true rfl), (Nat.le_of_ble_eq_true rfl)⟩) (fun w1 ty1 H locs hB hP hD hK hS => ?_)
  obtain ⟨rfl, rfl⟩ := hB
  have hP : va_P D vwCl [(h0, .inr (6, [.int 0, .ref q7_0])), (q7_0, .inl (cA7_0, 8, .inr (.inr (.inr (.inr (va_up (va_up (va_up (va_up (va_up (fun _ => none) 0 (some q29_1)) 1 (some q29_3)) 2 (some q29_5)) 3 (some q29_7)) 4 (some q29_9))))))), (q29_1, .inr (5, [.int 0, .int 0, .int 0, .int 0])), (q29_3, .inr (5, [.int 0, .int 0, .int 0, .int 0])), (q29_5, .inr (5, [.int 0, .int 0, .int 0, .int 0])), (q29_7, .inr (5, [.int 0, .int 0, .int 0, .int 0])), (q29_9, .inr (5, [.int 0, .int 0, .int 0, .int 0])), (q29_11, .inr (5, [.int 0, .int 0, .int 0, .int 0]))] H := hP
  have hD : va_D (va_A [(h0, .inr (6, [.int 0, .null]))] sz) [(h0, .inr (6, [.int 0, .ref q7_0])), (q7_0, .inl (cA7_0, 8, .inr (.inr (.inr (.inr (va_up (va_up (va_up (va_up (va_up (fun _ => none) 0 (some q29_1)) 1 (some q29_3)) 2 (some q29_5)) 3 (some q29_7)) 4 (some q29_9))))))), (q29_1, .inr (5, [.int 0, .int 0, .int 0, .int 0])), (q29_3, .inr (5, [.int 0, .int 0, .int 0, .int 0])), (q29_5, .inr (5, [.int 0, .int 0, .int 0, .int 0])), (q29_7, .inr (5, [.int 0, .int 0, .int 0, .int 0])), (q29_9, .inr (5, [.int 0, .int 0, .int 0, .int 0])), (q29_11, .inr (5, [.int 0, .int 0, .int 0, .int 0]))] := hD
  have hK : va_K D vwCl [(cA7_0, .object RX5)] sz' := hK
  refine W.widen (k := 7) (n := 32) (Nat.le_of_ble_eq_true rfl) (Nat.le_of_ble_eq_true rfl) ?_
  refine va_astq hx hb hK hP hD hS 1 0 7 5 rfl rfl rfl rfl (vp_in_nI (n := 5) (by decide) (by decide)) dX6_init_36 (fun H locs hP hD hS => ?_)
  have hP : va_P D vwCl [(h0, .inr (6, [.int 0, .ref q7_0])), (q7_0, .inl (cA7_0, 8, .inr (.inr (.inr (.inr (va_up (va_up (va_up (va_up (va_up (va_up (fun _ => none) 0 (some q29_1)) 1 (some q29_3)) 2 (some q29_5)) 3 (some q29_7)) 4 (some q29_9)) 5 (some q29_11))))))), (q29_1, .inr (5, [.int 0, .int 0, .int 0, .int 0])), (q29_3, .inr (5, [.int 0, .int 0, .int 0, .int 0])), (q29_5, .inr (5, [.int 0, .int 0, .int 0, .int 0])), (q29_7, .inr (5, [.int 0, .int 0, .int 0, .int 0])), (q29_9, .inr (5, [.int 0, .int 0, .int 0, .int 0])), (q29_11, .inr (5, [.int 0, .int 0, .int 0, .int 0]))] H := hP
  have hD : va_D (va_A [(h0, .inr (6, [.int 0, .null]))] sz) [(h0, .inr (6, [.int 0, .ref q7_0])), (q7_0, .inl (cA7_0, 8, .inr (.inr (.inr (.inr (va_up (va_up (va_up (va_up (va_up (va_up (fun _ => none) 0 (some q29_1)) 1 (some q29_3)) 2 (some q29_5)) 3 (some q29_7)) 4 (some q29_9)) 5 (some q29_11))))))), (q29_1, .inr (5, [.int 0, .int 0, .int 0, .int 0])), (q29_3, .inr (5, [.int 0, .int 0, .int 0, .int 0])), (q29_5, .inr (5, [.int 0, .int 0, .int 0, .int 0])), (q29_7, .inr (5, [.int 0, .int 0, .int 0, .int 0])), (q29_9, .inr (5, [.int 0, .int 0, .int 0, .int 0])), (q29_11, .inr (5, [.int 0, .int 0, .int 0, .int 0]))] := hD
  refine lv_iinc (v := 6) (lv' := [(1, .int 6), (0, .ref h0)]) hx hb dX6_init_37 hl (k := 0) rfl (by decide) (by decide) rfl (fun ls hl => ?_)
  refine lv_goto (tgt := 15) hx hb dX6_init_40 (by decide) ?_
  refine lv_iload_n hx hb dX6_init_15 rfl (lv_at hl 0 rfl) ?_
  refine lv_aload_n hx hb dX6_init_16 rfl (lv_at hl 1 rfl) ?_
  refine va_get (D := D) (ci := 6) (v := .ref q7_0) (C := RX6) (T := TX6) (N := 2) hx hb hts JX6 hown hK hP 0 rfl rfl 1 (by decide) K5 (fun _ h9 => h9) rfl dX6_init_17 ?_
  refine va_alen hx hb hK hP 1 0 rfl rfl (v := 8) rfl dX6_init_20 ?_
  refine lv_icmp_ge (tgt := 43) hx hb dX6_init_21 (by decide) (fun cc => absurd cc (by decide)) (fun cc => ?_)
  refine lv_aload_n hx hb dX6_init_24 rfl (lv_at hl 1 rfl) ?_
  refine va_get (D := D) (ci := 6) (v := .ref q7_0) (C := RX6) (T := TX6) (N := 2) hx hb hts JX6 hown hK hP 0 rfl rfl 1 (by decide) K5 (fun _ h9 => h9) rfl dX6_init_25 ?_
  refine lv_iload_n hx hb dX6_init_28 rfl (lv_at hl 0 rfl) ?_
  refine va_new (ci := 5) (fs := [.int 0, .int 0, .int 0, .int 0]) (C := RX5) (T := TX5) (N := 4) hx hb hts JX5 tyX5 tyX5_ok hown K4 K6 K7 hK hP hD hS hA rfl (fun j hj => match j, hj with | 0, _ => rfl | 1, _ => rfl | 2, _ => rfl | 3, _ => rfl | n + 4, h => absurd h (by omega)) (Nat.le_of_ble_eq_true rfl) (Nat.le_of_ble_eq_true rfl) dX6_init_29 (fun q29_13 H hP hD hS => ?_)
  have hP : va_P D vwCl [(h0, .inr (6, [.int 0, .ref q7_0])), (q7_0, .inl (cA7_0, 8, .inr (.inr (.inr (.inr (va_up (va_up (va_up (va_up (va_up (va_up (fun _ => none) 0 (some q29_1)) 1 (some q29_3)) 2 (some q29_5)) 3 (some q29_7)) 4 (some q29_9)) 5 (some q29_11))))))), (q29_1, .inr (5, [.int 0, .int 0, .int 0, .int 0])), (q29_3, .inr (5, [.int 0, .int 0, .int 0, .int 0])), (q29_5, .inr (5, [.int 0, .int 0, .int 0, .int 0])), (q29_7, .inr (5, [.int 0, .int 0, .int 0, .int 0])), (q29_9, .inr (5, [.int 0, .int 0, .int 0, .int 0])), (q29_11, .inr (5, [.int 0, .int 0, .int 0, .int 0])), (q29_13, .inr (5, [.int 0, .int 0, .int 0, .int 0]))] H := hP
  have hD : va_D (va_A [(h0, .inr (6, [.int 0, .null]))] sz) [(h0, .inr (6, [.int 0, .ref q7_0])), (q7_0, .inl (cA7_0, 8, .inr (.inr (.inr (.inr (va_up (va_up (va_up (va_up (va_up (va_up (fun _ => none) 0 (some q29_1)) 1 (some q29_3)) 2 (some q29_5)) 3 (some q29_7)) 4 (some q29_9)) 5 (some q29_11))))))), (q29_1, .inr (5, [.int 0, .int 0, .int 0, .int 0])), (q29_3, .inr (5, [.int 0, .int 0, .int 0, .int 0])), (q29_5, .inr (5, [.int 0, .int 0, .int 0, .int 0])), (q29_7, .inr (5, [.int 0, .int 0, .int 0, .int 0])), (q29_9, .inr (5, [.int 0, .int 0, .int 0, .int 0])), (q29_11, .inr (5, [.int 0, .int 0, .int 0, .int 0])), (q29_13, .inr (5, [.int 0, .int 0, .int 0, .int 0]))] := hD
  refine W.widen (k := 8) (n := 36) (Nat.le_of_ble_eq_true rfl) (Nat.le_of_ble_eq_true rfl) ?_
  refine lv_dup hx hb dX6_init_32 rfl ?_
  refine i_goes (B := BX5 q29_13) (wr := [(h0, .inr (6, [.int 0, .ref q7_0])), (q7_0, .inl (cA7_0, 8, .inr (.inr (.inr (.inr (va_up (va_up (va_up (va_up (va_up (va_up (fun _ => none) 0 (some q29_1)) 1 (some q29_3)) 2 (some q29_5)) 3 (some q29_7)) 4 (some q29_9)) 5 (some q29_11))))))), (q29_1, .inr (5, [.int 0, .int 0, .int 0, .int 0])), (q29_3, .inr (5, [.int 0, .int 0, .int 0, .int 0])), (q29_5, .inr (5, [.int 0, .int 0, .int 0, .int 0])), (q29_7, .inr (5, [.int 0, .int 0, .int 0, .int 0])), (q29_9, .inr (5, [.int 0, .int 0, .int 0, .int 0])), (q29_11, .inr (5, [.int 0, .int 0, .int 0, .int 0]))]) hK hP hD hS hA 8 [0, 1, 2, 3, 4, 5, 6, 7] rfl rfl (by decide) (by decide) (va_runIN (As := []) (rest := [.ref q29_13, .int 6, .ref q7_0]) CF (c_X5_init l D q29_13 H.size) ⟨va_cnB 0 hts gX6_init_X5_init_n17 rfl rfl rfl hKI.2.1 K7 (by decide +kernel) ⟨(Nat.le_of_ble_eq_true rfl), (Nat.le_of_ble_eq_true rfl)⟩, rfl, K8⟩ (i_pre hKI hK hP hD 8 rfl) rfl rfl hl.1 rfl (lv_room (Nat.le_of_ble_eq_true rfl)) dX6_init_33 ⟨(Nat.le_of_ble_eq_true rfl), (Nat.le_of_ble_eq_true rfl)⟩) (fun w1 ty1 H locs hB hP hD hK hS => ?_)
  obtain ⟨rfl, rfl⟩ := hB
  have hP : va_P D vwCl [(h0, .inr (6, [.int 0, .ref q7_0])), (q7_0, .inl (cA7_0, 8, .inr (.inr (.inr (.inr (va_up (va_up (va_up (va_up (va_up (va_up (fun _ => none) 0 (some q29_1)) 1 (some q29_3)) 2 (some q29_5)) 3 (some q29_7)) 4 (some q29_9)) 5 (some q29_11))))))), (q29_1, .inr (5, [.int 0, .int 0, .int 0, .int 0])), (q29_3, .inr (5, [.int 0, .int 0, .int 0, .int 0])), (q29_5, .inr (5, [.int 0, .int 0, .int 0, .int 0])), (q29_7, .inr (5, [.int 0, .int 0, .int 0, .int 0])), (q29_9, .inr (5, [.int 0, .int 0, .int 0, .int 0])), (q29_11, .inr (5, [.int 0, .int 0, .int 0, .int 0])), (q29_13, .inr (5, [.int 0, .int 0, .int 0, .int 0]))] H := hP
  have hD : va_D (va_A [(h0, .inr (6, [.int 0, .null]))] sz) [(h0, .inr (6, [.int 0, .ref q7_0])), (q7_0, .inl (cA7_0, 8, .inr (.inr (.inr (.inr (va_up (va_up (va_up (va_up (va_up (va_up (fun _ => none) 0 (some q29_1)) 1 (some q29_3)) 2 (some q29_5)) 3 (some q29_7)) 4 (some q29_9)) 5 (some q29_11))))))), (q29_1, .inr (5, [.int 0, .int 0, .int 0, .int 0])), (q29_3, .inr (5, [.int 0, .int 0, .int 0, .int 0])), (q29_5, .inr (5, [.int 0, .int 0, .int 0, .int 0])), (q29_7, .inr (5, [.int 0, .int 0, .int 0, .int 0])), (q29_9, .inr (5, [.int 0, .int 0, .int 0, .int 0])), (q29_11, .inr (5, [.int 0, .int 0, .int 0, .int 0])), (q29_13, .inr (5, [.int 0, .int 0, .int 0, .int 0]))] := hD
  have hK : va_K D vwCl [(cA7_0, .object RX5)] sz' := hK
  refine W.widen (k := 8) (n := 36) (Nat.le_of_ble_eq_true rfl) (Nat.le_of_ble_eq_true rfl) ?_
  refine va_astq hx hb hK hP hD hS 1 0 8 5 rfl rfl rfl rfl (vp_in_nI (n := 6) (by decide) (by decide)) dX6_init_36 (fun H locs hP hD hS => ?_)
  have hP : va_P D vwCl [(h0, .inr (6, [.int 0, .ref q7_0])), (q7_0, .inl (cA7_0, 8, .inr (.inr (.inr (.inr (va_up (va_up (va_up (va_up (va_up (va_up (va_up (fun _ => none) 0 (some q29_1)) 1 (some q29_3)) 2 (some q29_5)) 3 (some q29_7)) 4 (some q29_9)) 5 (some q29_11)) 6 (some q29_13))))))), (q29_1, .inr (5, [.int 0, .int 0, .int 0, .int 0])), (q29_3, .inr (5, [.int 0, .int 0, .int 0, .int 0])), (q29_5, .inr (5, [.int 0, .int 0, .int 0, .int 0])), (q29_7, .inr (5, [.int 0, .int 0, .int 0, .int 0])), (q29_9, .inr (5, [.int 0, .int 0, .int 0, .int 0])), (q29_11, .inr (5, [.int 0, .int 0, .int 0, .int 0])), (q29_13, .inr (5, [.int 0, .int 0, .int 0, .int 0]))] H := hP
  have hD : va_D (va_A [(h0, .inr (6, [.int 0, .null]))] sz) [(h0, .inr (6, [.int 0, .ref q7_0])), (q7_0, .inl (cA7_0, 8, .inr (.inr (.inr (.inr (va_up (va_up (va_up (va_up (va_up (va_up (va_up (fun _ => none) 0 (some q29_1)) 1 (some q29_3)) 2 (some q29_5)) 3 (some q29_7)) 4 (some q29_9)) 5 (some q29_11)) 6 (some q29_13))))))), (q29_1, .inr (5, [.int 0, .int 0, .int 0, .int 0])), (q29_3, .inr (5, [.int 0, .int 0, .int 0, .int 0])), (q29_5, .inr (5, [.int 0, .int 0, .int 0, .int 0])), (q29_7, .inr (5, [.int 0, .int 0, .int 0, .int 0])), (q29_9, .inr (5, [.int 0, .int 0, .int 0, .int 0])), (q29_11, .inr (5, [.int 0, .int 0, .int 0, .int 0])), (q29_13, .inr (5, [.int 0, .int 0, .int 0, .int 0]))] := hD
  refine lv_iinc (v := 7) (lv' := [(1, .int 7), (0, .ref h0)]) hx hb dX6_init_37 hl (k := 0) rfl (by decide) (by decide) rfl (fun ls hl => ?_)
  refine lv_goto (tgt := 15) hx hb dX6_init_40 (by decide) ?_
  refine lv_iload_n hx hb dX6_init_15 rfl (lv_at hl 0 rfl) ?_
  refine lv_aload_n hx hb dX6_init_16 rfl (lv_at hl 1 rfl) ?_
  refine va_get (D := D) (ci := 6) (v := .ref q7_0) (C := RX6) (T := TX6) (N := 2) hx hb hts JX6 hown hK hP 0 rfl rfl 1 (by decide) K5 (fun _ h9 => h9) rfl dX6_init_17 ?_
  refine va_alen hx hb hK hP 1 0 rfl rfl (v := 8) rfl dX6_init_20 ?_
  refine lv_icmp_ge (tgt := 43) hx hb dX6_init_21 (by decide) (fun cc => absurd cc (by decide)) (fun cc => ?_)
  refine lv_aload_n hx hb dX6_init_24 rfl (lv_at hl 1 rfl) ?_
  refine va_get (D := D) (ci := 6) (v := .ref q7_0) (C := RX6) (T := TX6) (N := 2) hx hb hts JX6 hown hK hP 0 rfl rfl 1 (by decide) K5 (fun _ h9 => h9) rfl dX6_init_25 ?_
  refine lv_iload_n hx hb dX6_init_28 rfl (lv_at hl 0 rfl) ?_
  refine va_new (ci := 5) (fs := [.int 0, .int 0, .int 0, .int 0]) (C := RX5) (T := TX5) (N := 4) hx hb hts JX5 tyX5 tyX5_ok hown K4 K6 K7 hK hP hD hS hA rfl (fun j hj => match j, hj with | 0, _ => rfl | 1, _ => rfl | 2, _ => rfl | 3, _ => rfl | n + 4, h => absurd h (by omega)) (Nat.le_of_ble_eq_true rfl) (Nat.le_of_ble_eq_true rfl) dX6_init_29 (fun q29_15 H hP hD hS => ?_)
  have hP : va_P D vwCl [(h0, .inr (6, [.int 0, .ref q7_0])), (q7_0, .inl (cA7_0, 8, .inr (.inr (.inr (.inr (va_up (va_up (va_up (va_up (va_up (va_up (va_up (fun _ => none) 0 (some q29_1)) 1 (some q29_3)) 2 (some q29_5)) 3 (some q29_7)) 4 (some q29_9)) 5 (some q29_11)) 6 (some q29_13))))))), (q29_1, .inr (5, [.int 0, .int 0, .int 0, .int 0])), (q29_3, .inr (5, [.int 0, .int 0, .int 0, .int 0])), (q29_5, .inr (5, [.int 0, .int 0, .int 0, .int 0])), (q29_7, .inr (5, [.int 0, .int 0, .int 0, .int 0])), (q29_9, .inr (5, [.int 0, .int 0, .int 0, .int 0])), (q29_11, .inr (5, [.int 0, .int 0, .int 0, .int 0])), (q29_13, .inr (5, [.int 0, .int 0, .int 0, .int 0])), (q29_15, .inr (5, [.int 0, .int 0, .int 0, .int 0]))] H := hP
  have hD : va_D (va_A [(h0, .inr (6, [.int 0, .null]))] sz) [(h0, .inr (6, [.int 0, .ref q7_0])), (q7_0, .inl (cA7_0, 8, .inr (.inr (.inr (.inr (va_up (va_up (va_up (va_up (va_up (va_up (va_up (fun _ => none) 0 (some q29_1)) 1 (some q29_3)) 2 (some q29_5)) 3 (some q29_7)) 4 (some q29_9)) 5 (some q29_11)) 6 (some q29_13))))))), (q29_1, .inr (5, [.int 0, .int 0, .int 0, .int 0])), (q29_3, .inr (5, [.int 0, .int 0, .int 0, .int 0])), (q29_5, .inr (5, [.int 0, .int 0, .int 0, .int 0])), (q29_7, .inr (5, [.int 0, .int 0, .int 0, .int 0])), (q29_9, .inr (5, [.int 0, .int 0, .int 0, .int 0])), (q29_11, .inr (5, [.int 0, .int 0, .int 0, .int 0])), (q29_13, .inr (5, [.int 0, .int 0, .int 0, .int 0])), (q29_15, .inr (5, [.int 0, .int 0, .int 0, .int 0]))] := hD
  refine W.widen (k := 9) (n := 40) (Nat.le_of_ble_eq_true rfl) (Nat.le_of_ble_eq_true rfl) ?_
  refine lv_dup hx hb dX6_init_32 rfl ?_
  refine i_goes (B := BX5 q29_15) (wr := [(h0, .inr (6, [.int 0, .ref q7_0])), (q7_0, .inl (cA7_0, 8, .inr (.inr (.inr (.inr (va_up (va_up (va_up (va_up (va_up (va_up (va_up (fun _ => none) 0 (some q29_1)) 1 (some q29_3)) 2 (some q29_5)) 3 (some q29_7)) 4 (some q29_9)) 5 (some q29_11)) 6 (some q29_13))))))), (q29_1, .inr (5, [.int 0, .int 0, .int 0, .int 0])), (q29_3, .inr (5, [.int 0, .int 0, .int 0, .int 0])), (q29_5, .inr (5, [.int 0, .int 0, .int 0, .int 0])), (q29_7, .inr (5, [.int 0, .int 0, .int 0, .int 0])), (q29_9, .inr (5, [.int 0, .int 0, .int 0, .int 0])), (q29_11, .inr (5, [.int 0, .int 0, .int 0, .int 0])), (q29_13, .inr (5, [.int 0, .int 0, .int 0, .int 0]))]) hK hP hD hS hA 9 [0, 1, 2, 3, 4, 5, 6, 7, 8] rfl rfl (by decide) (by decide) (va_runIN (As := []) (rest := [.ref q29_15, .int 7, .ref q7_0]) CF (c_X5_init l D q29_15 H.size) ⟨va_cnB 0 hts gX6_init_X5_init_n17 rfl rfl rfl hKI.2.1 K7 (by decide +kernel) ⟨(Nat.le_of_ble_eq_true rfl), (Nat.le_of_ble_eq_true rfl)⟩, rfl, K8⟩ (i_pre hKI hK hP hD 9 rfl) rfl rfl hl.1 rfl (lv_room (Nat.le_of_ble_eq_true rfl)) dX6_init_33 ⟨(Nat.le_of_ble_eq_true rfl), (Nat.le_of_ble_eq_true rfl)⟩) (fun w1 ty1 H locs hB hP hD hK hS => ?_)
  obtain ⟨rfl, rfl⟩ := hB
  have hP : va_P D vwCl [(h0, .inr (6, [.int 0, .ref q7_0])), (q7_0, .inl (cA7_0, 8, .inr (.inr (.inr (.inr (va_up (va_up (va_up (va_up (va_up (va_up (va_up (fun _ => none) 0 (some q29_1)) 1 (some q29_3)) 2 (some q29_5)) 3 (some q29_7)) 4 (some q29_9)) 5 (some q29_11)) 6 (some q29_13))))))), (q29_1, .inr (5, [.int 0, .int 0, .int 0, .int 0])), (q29_3, .inr (5, [.int 0, .int 0, .int 0, .int 0])), (q29_5, .inr (5, [.int 0, .int 0, .int 0, .int 0])), (q29_7, .inr (5, [.int 0, .int 0, .int 0, .int 0])), (q29_9, .inr (5, [.int 0, .int 0, .int 0, .int 0])), (q29_11, .inr (5, [.int 0, .int 0, .int 0, .int 0])), (q29_13, .inr (5, [.int 0, .int 0, .int 0, .int 0])), (q29_15, .inr (5, [.int 0, .int 0, .int 0, .int 0]))] H := hP
  have hD : va_D (va_A [(h0, .inr (6, [.int 0, .null]))] sz) [(h0, .inr (6, [.int 0, .ref q7_0])), (q7_0, .inl (cA7_0, 8, .inr (.inr (.inr (.inr (va_up (va_up (va_up (va_up (va_up (va_up (va_up (fun _ => none) 0 (some q29_1)) 1 (some q29_3)) 2 (some q29_5)) 3 (some q29_7)) 4 (some q29_9)) 5 (some q29_11)) 6 (some q29_13))))))), (q29_1, .inr (5, [.int 0, .int 0, .int 0, .int 0])), (q29_3, .inr (5, [.int 0, .int 0, .int 0, .int 0])), (q29_5, .inr (5, [.int 0, .int 0, .int 0, .int 0])), (q29_7, .inr (5, [.int 0, .int 0, .int 0, .int 0])), (q29_9, .inr (5, [.int 0, .int 0, .int 0, .int 0])), (q29_11, .inr (5, [.int 0, .int 0, .int 0, .int 0])), (q29_13, .inr (5, [.int 0, .int 0, .int 0, .int 0])), (q29_15, .inr (5, [.int 0, .int 0, .int 0, .int 0]))] := hD
  have hK : va_K D vwCl [(cA7_0, .object RX5)] sz' := hK
  refine W.widen (k := 9) (n := 40) (Nat.le_of_ble_eq_true rfl) (Nat.le_of_ble_eq_true rfl) ?_
  refine va_astq hx hb hK hP hD hS 1 0 9 5 rfl rfl rfl rfl (vp_in_nI (n := 7) (by decide) (by decide)) dX6_init_36 (fun H locs hP hD hS => ?_)
  have hP : va_P D vwCl [(h0, .inr (6, [.int 0, .ref q7_0])), (q7_0, .inl (cA7_0, 8, .inr (.inr (.inr (.inr (va_up (va_up (va_up (va_up (va_up (va_up (va_up (va_up (fun _ => none) 0 (some q29_1)) 1 (some q29_3)) 2 (some q29_5)) 3 (some q29_7)) 4 (some q29_9)) 5 (some q29_11)) 6 (some q29_13)) 7 (some q29_15))))))), (q29_1, .inr (5, [.int 0, .int 0, .int 0, .int 0])), (q29_3, .inr (5, [.int 0, .int 0, .int 0, .int 0])), (q29_5, .inr (5, [.int 0, .int 0, .int 0, .int 0])), (q29_7, .inr (5, [.int 0, .int 0, .int 0, .int 0])), (q29_9, .inr (5, [.int 0, .int 0, .int 0, .int 0])), (q29_11, .inr (5, [.int 0, .int 0, .int 0, .int 0])), (q29_13, .inr (5, [.int 0, .int 0, .int 0, .int 0])), (q29_15, .inr (5, [.int 0, .int 0, .int 0, .int 0]))] H := hP
  have hD : va_D (va_A [(h0, .inr (6, [.int 0, .null]))] sz) [(h0, .inr (6, [.int 0, .ref q7_0])), (q7_0, .inl (cA7_0, 8, .inr (.inr (.inr (.inr (va_up (va_up (va_up (va_up (va_up (va_up (va_up (va_up (fun _ => none) 0 (some q29_1)) 1 (some q29_3)) 2 (some q29_5)) 3 (some q29_7)) 4 (some q29_9)) 5 (some q29_11)) 6 (some q29_13)) 7 (some q29_15))))))), (q29_1, .inr (5, [.int 0, .int 0, .int 0, .int 0])), (q29_3, .inr (5, [.int 0, .int 0, .int 0, .int 0])), (q29_5, .inr (5, [.int 0, .int 0, .int 0, .int 0])), (q29_7, .inr (5, [.int 0, .int 0, .int 0, .int 0])), (q29_9, .inr (5, [.int 0, .int 0, .int 0, .int 0])), (q29_11, .inr (5, [.int 0, .int 0, .int 0, .int 0])), (q29_13, .inr (5, [.int 0, .int 0, .int 0, .int 0])), (q29_15, .inr (5, [.int 0, .int 0, .int 0, .int 0]))] := hD
  refine lv_iinc (v := 8) (lv' := [(1, .int 8), (0, .ref h0)]) hx hb dX6_init_37 hl (k := 0) rfl (by decide) (by decide) rfl (fun ls hl => ?_)
  refine lv_goto (tgt := 15) hx hb dX6_init_40 (by decide) ?_
  refine lv_iload_n hx hb dX6_init_15 rfl (lv_at hl 0 rfl) ?_
  refine lv_aload_n hx hb dX6_init_16 rfl (lv_at hl 1 rfl) ?_
  refine va_get (D := D) (ci := 6) (v := .ref q7_0) (C := RX6) (T := TX6) (N := 2) hx hb hts JX6 hown hK hP 0 rfl rfl 1 (by decide) K5 (fun _ h9 => h9) rfl dX6_init_17 ?_
  refine va_alen hx hb hK hP 1 0 rfl rfl (v := 8) rfl dX6_init_20 ?_
  refine lv_icmp_ge (tgt := 43) hx hb dX6_init_21 (by decide) (fun cc => ?_) (fun cc => absurd (by decide) cc)
  obtain ⟨qs, hqs⟩ : ∃ qs : Nat → Nat, qs = (fun i => match i with | 0 => q29_1 | 1 => q29_3 | 2 => q29_5 | 3 => q29_7 | 4 => q29_9 | 5 => q29_11 | 6 => q29_13 | _ => q29_15) := ⟨_, rfl⟩
  have hE : va_at D vwCl (q7_0, .inl (cA7_0, 8, .inr (.inr (.inr (.inr (fun i => some (qs i))))))) H := by
    have h1 := hP 1 _ rfl
    show H[q7_0]? = some (vp_cell _ _)
    rw [vpq_congr cA7_0 (n := 8) (f := fun i => some (qs i)) (g := va_up (va_up (va_up (va_up (va_up (va_up (va_up (va_up (fun _ => none) 0 (some q29_1)) 1 (some q29_3)) 2 (some q29_5)) 3 (some q29_7)) 4 (some q29_9)) 5 (some q29_11)) 6 (some q29_13)) 7 (some q29_15)) (fun j hj => by subst hqs; match j, hj with | 0, _ => rfl | 1, _ => rfl | 2, _ => rfl | 3, _ => rfl | 4, _ => rfl | 5, _ => rfl | 6, _ => rfl | 7, _ => rfl | n + 8, h => exact absurd h (by omega))]
    exact h1
  have hP := hP.set (p := 1) hD rfl hE (fun _ _ => rfl)
  have hD := hD.set (p := 1) (e := .inl (cA7_0, 8, .inr (.inr (.inr (.inr (fun i => some (qs i))))))) rfl
  exact i_ret hx hb hr hlk hK hP hD hS dX6_init_43 ⟨_, _, qs, by subst hqs; rfl, rfl⟩

def BX3 (h0 : Nat) : va_W → List (ClassId × FieldType) → Prop := fun w ty => ∃ (b q : Nat) (cA : ClassId) (qs : Nat → Nat), w = [(h0, .inr (3, [.int 0, .int 0, .int 0, .ref b])), (b, .inr (6, [.int 0, .ref q])), (q, .inl (cA, 8, .inr (.inr (.inr (.inr (fun i => some (qs i))))))), ((qs 0), .inr (5, [.int 0, .int 0, .int 0, .int 0])), ((qs 1), .inr (5, [.int 0, .int 0, .int 0, .int 0])), ((qs 2), .inr (5, [.int 0, .int 0, .int 0, .int 0])), ((qs 3), .inr (5, [.int 0, .int 0, .int 0, .int 0])), ((qs 4), .inr (5, [.int 0, .int 0, .int 0, .int 0])), ((qs 5), .inr (5, [.int 0, .int 0, .int 0, .int 0])), ((qs 6), .inr (5, [.int 0, .int 0, .int 0, .int 0])), ((qs 7), .inr (5, [.int 0, .int 0, .int 0, .int 0]))] ∧ ty = [(cA, .object RX5)]
set_option maxRecDepth 100000 in
set_option maxHeartbeats 8000000 in
theorem c_X3_init (l : Launch) (D : va_G) (h0 sz : Nat) : Met l yX3_init wsX3_init ({ frames := 3, cells := 10, slots := 42, locals := 61 } : Room) (IPc D [(h0, .inr (3, [.int 0, .int 0, .int 0, .null]))] h0 sz) (IQc D [(h0, .inr (3, [.int 0, .int 0, .int 0, .null]))] sz (BX3 h0)) 10 42 (va_A [(h0, .inr (3, [.int 0, .int 0, .int 0, .null]))] sz) := by
  refine i_start (cc := cX3_init) (maxL := 1) (by decide) rfl rfl (by decide) ?_
  intro pz ez sz' mz below meth cz ls CF hr hlk hin hKI hK hsz hP hD hS hA hl
  have CF : CallFix pz mz cz cX3_init 1 sz' (List.toArray [Value.ref h0]) wsX3_init RX3 := CF
  have hx := CF.1
  have hb := CF.2.1
  have hown := CF.2.2.2.1
  have hts := CF.2.2.2.2
  have hin : meth.name = "<init>" := hin
  have K1 := hts _ (List.mem_of_getElem? (i := 1) rfl)
  have K2 := hts _ (List.mem_of_getElem? (i := 2) rfl)
  have K3 := hts _ (List.mem_of_getElem? (i := 3) rfl)
  have K4 := hts _ (List.mem_of_getElem? (i := 4) rfl)
  have K5 := hts _ (List.mem_of_getElem? (i := 5) rfl)
  have K6 := hts _ (List.mem_of_getElem? (i := 6) rfl)
  have K7 := hts _ (List.mem_of_getElem? (i := 7) rfl)
  have K8 := hts _ (List.mem_of_getElem? (i := 8) rfl)
  have K9 := hts _ (List.mem_of_getElem? (i := 9) rfl)
  have JX3 : ∀ w ∈ wsX30, w ∈ wsX3_init := in_r _ [21, 22, 23, 24] (by decide +kernel)
  have JX6 : ∀ w ∈ wsX60, w ∈ wsX3_init := in_r _ [19, 20] (by decide +kernel)
  refine lv_aload_n hx hb dX3_init_0 rfl (lv_at hl 0 rfl) ?_
  refine W.objInit hx hb hown K1 K2 K3 rfl (by rw [CF.2.2.1]; exact hl.1) rfl dX3_init_1 (Nat.le_of_ble_eq_true rfl) (Nat.le_of_ble_eq_true rfl) ?_
  refine W.eq (g2 := F0 mz 4 ls []) rfl ?_
  refine lv_aload_n hx hb dX3_init_4 rfl (lv_at hl 0 rfl) ?_
  refine va_new (ci := 6) (fs := [.int 0, .null]) (C := RX6) (T := TX6) (N := 2) hx hb hts JX6 tyX6 tyX6_ok hown K4 K5 K6 hK hP hD hS hA rfl (fun j hj => match j, hj with | 0, _ => rfl | 1, _ => rfl | n + 2, h => absurd h (by omega)) (Nat.le_of_ble_eq_true rfl) (Nat.le_of_ble_eq_true rfl) dX3_init_5 (fun q5_0 H hP hD hS => ?_)
  have hP : va_P D vwCl [(h0, .inr (3, [.int 0, .int 0, .int 0, .null])), (q5_0, .inr (6, [.int 0, .null]))] H := hP
  have hD : va_D (va_A [(h0, .inr (3, [.int 0, .int 0, .int 0, .null]))] sz) [(h0, .inr (3, [.int 0, .int 0, .int 0, .null])), (q5_0, .inr (6, [.int 0, .null]))] := hD
  refine W.widen (k := 1) (n := 2) (Nat.le_of_ble_eq_true rfl) (Nat.le_of_ble_eq_true rfl) ?_
  refine lv_dup hx hb dX3_init_8 rfl ?_
  refine i_goes (B := BX6 q5_0) (wr := [(h0, .inr (3, [.int 0, .int 0, .int 0, .null]))]) hK hP hD hS hA 1 [0] rfl rfl (by decide) (by decide) (va_runI (As := []) (rest := [.ref q5_0, .ref h0]) CF (c_X6_init l D q5_0 H.size) (cwI 0 hts gX3_init_X6_init rfl rfl rfl K6 K8 K9 rfl (by decide +kernel) ⟨(Nat.le_of_ble_eq_true rfl), (Nat.le_of_ble_eq_true rfl)⟩) (i_pre hKI hK hP hD 1 rfl) rfl rfl hl.1 rfl (lv_room (Nat.le_of_ble_eq_true rfl)) dX3_init_9 ⟨(Nat.le_of_ble_eq_true rfl), (Nat.le_of_ble_eq_true rfl)⟩) (fun w1 ty1 H locs hB hP hD hK hS => ?_)
  obtain ⟨a9_1, c9_1, s9_1, rfl, rfl⟩ := hB
  have hP : va_P D vwCl [(h0, .inr (3, [.int 0, .int 0, .int 0, .null])), (q5_0, .inr (6, [.int 0, .ref a9_1])), (a9_1, .inl (c9_1, 8, .inr (.inr (.inr (.inr (fun i => some (s9_1 i))))))), ((s9_1 0), .inr (5, [.int 0, .int 0, .int 0, .int 0])), ((s9_1 1), .inr (5, [.int 0, .int 0, .int 0, .int 0])), ((s9_1 2), .inr (5, [.int 0, .int 0, .int 0, .int 0])), ((s9_1 3), .inr (5, [.int 0, .int 0, .int 0, .int 0])), ((s9_1 4), .inr (5, [.int 0, .int 0, .int 0, .int 0])), ((s9_1 5), .inr (5, [.int 0, .int 0, .int 0, .int 0])), ((s9_1 6), .inr (5, [.int 0, .int 0, .int 0, .int 0])), ((s9_1 7), .inr (5, [.int 0, .int 0, .int 0, .int 0]))] H := hP
  have hD : va_D (va_A [(h0, .inr (3, [.int 0, .int 0, .int 0, .null]))] sz) [(h0, .inr (3, [.int 0, .int 0, .int 0, .null])), (q5_0, .inr (6, [.int 0, .ref a9_1])), (a9_1, .inl (c9_1, 8, .inr (.inr (.inr (.inr (fun i => some (s9_1 i))))))), ((s9_1 0), .inr (5, [.int 0, .int 0, .int 0, .int 0])), ((s9_1 1), .inr (5, [.int 0, .int 0, .int 0, .int 0])), ((s9_1 2), .inr (5, [.int 0, .int 0, .int 0, .int 0])), ((s9_1 3), .inr (5, [.int 0, .int 0, .int 0, .int 0])), ((s9_1 4), .inr (5, [.int 0, .int 0, .int 0, .int 0])), ((s9_1 5), .inr (5, [.int 0, .int 0, .int 0, .int 0])), ((s9_1 6), .inr (5, [.int 0, .int 0, .int 0, .int 0])), ((s9_1 7), .inr (5, [.int 0, .int 0, .int 0, .int 0]))] := hD
  have hK : va_K D vwCl [(c9_1, .object RX5)] sz' := hK
  refine W.widen (k := 10) (n := 42) (Nat.le_of_ble_eq_true rfl) (Nat.le_of_ble_eq_true rfl) ?_
  refine va_putF (D := D) (ci := 3) (v := .ref q5_0) (ty := .object "AerialSurvey$StripList") (C := RX3) (T := TX3) (N := 4) hx hb hts JX3 tyX3 tyX3_ok nmX3 hown hK hP hD hS 0 rfl rfl 3 (by decide) K7 (fun _ h9 => h9) rfl hin rfl (by decide +kernel) rfl rfl (Nat.le_of_ble_eq_true rfl) dX3_init_12 (fun H locs hP hD hS => ?_)
  have hP : va_P D vwCl [(h0, .inr (3, [.int 0, .int 0, .int 0, .ref q5_0])), (q5_0, .inr (6, [.int 0, .ref a9_1])), (a9_1, .inl (c9_1, 8, .inr (.inr (.inr (.inr (fun i => some (s9_1 i))))))), ((s9_1 0), .inr (5, [.int 0, .int 0, .int 0, .int 0])), ((s9_1 1), .inr (5, [.int 0, .int 0, .int 0, .int 0])), ((s9_1 2), .inr (5, [.int 0, .int 0, .int 0, .int 0])), ((s9_1 3), .inr (5, [.int 0, .int 0, .int 0, .int 0])), ((s9_1 4), .inr (5, [.int 0, .int 0, .int 0, .int 0])), ((s9_1 5), .inr (5, [.int 0, .int 0, .int 0, .int 0])), ((s9_1 6), .inr (5, [.int 0, .int 0, .int 0, .int 0])), ((s9_1 7), .inr (5, [.int 0, .int 0, .int 0, .int 0]))] H := hP
  have hD : va_D (va_A [(h0, .inr (3, [.int 0, .int 0, .int 0, .null]))] sz) [(h0, .inr (3, [.int 0, .int 0, .int 0, .ref q5_0])), (q5_0, .inr (6, [.int 0, .ref a9_1])), (a9_1, .inl (c9_1, 8, .inr (.inr (.inr (.inr (fun i => some (s9_1 i))))))), ((s9_1 0), .inr (5, [.int 0, .int 0, .int 0, .int 0])), ((s9_1 1), .inr (5, [.int 0, .int 0, .int 0, .int 0])), ((s9_1 2), .inr (5, [.int 0, .int 0, .int 0, .int 0])), ((s9_1 3), .inr (5, [.int 0, .int 0, .int 0, .int 0])), ((s9_1 4), .inr (5, [.int 0, .int 0, .int 0, .int 0])), ((s9_1 5), .inr (5, [.int 0, .int 0, .int 0, .int 0])), ((s9_1 6), .inr (5, [.int 0, .int 0, .int 0, .int 0])), ((s9_1 7), .inr (5, [.int 0, .int 0, .int 0, .int 0]))] := hD
  exact i_ret hx hb hr hlk hK hP hD hS dX3_init_15 ⟨_, _, _, _, rfl, rfl⟩
