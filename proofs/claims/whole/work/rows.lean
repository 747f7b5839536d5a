section
-- ===== PART A: goes FIRST, ahead of the names: the tables' words, and 'selects' of the private methods out of them =====
/-- a private method of a class that the tables say can be made, by its rows of tables_1 -/
def lw_okq (q : MethodName × Nat) : Prop := (q.1.cls ≠ "java/lang/invoke/MethodHandle" ∧ q.1.cls ≠ "java/lang/invoke/VarHandle") ∧ Cond.instantiable q.1.cls q.2 ∈ tables_1 ∧ Cond.privateMethod q.1 ∈ tables_1 ∧ Cond.instanceMethod q.1 ∈ tables_1
theorem lw_p0 : lw_okq (⟨"AerialSurvey$Camera", "isLineFree", "(LAerialSurvey$Terrain;IIII)Z"⟩, 4) := ⟨⟨by decide +kernel, by decide +kernel⟩, List.mem_of_getElem? (i := 44) (by decide +kernel), List.mem_of_getElem? (i := 342) (by decide +kernel), List.mem_of_getElem? (i := 343) (by decide +kernel)⟩
theorem lw_p1 : lw_okq (⟨"AerialSurvey$Router", "fillTimes", "(LAerialSurvey$StripList;LAerialSurvey$Aircraft;)V"⟩, 3) := ⟨⟨by decide +kernel, by decide +kernel⟩, List.mem_of_getElem? (i := 170) (by decide +kernel), List.mem_of_getElem? (i := 456) (by decide +kernel), List.mem_of_getElem? (i := 457) (by decide +kernel)⟩
theorem lw_p2 : lw_okq (⟨"AerialSurvey$Router", "choose", "(LAerialSurvey$StripList;LAerialSurvey$Aircraft;III)V"⟩, 3) := ⟨⟨by decide +kernel, by decide +kernel⟩, List.mem_of_getElem? (i := 170) (by decide +kernel), List.mem_of_getElem? (i := 471) (by decide +kernel), List.mem_of_getElem? (i := 472) (by decide +kernel)⟩
theorem lw_p3 : lw_okq (⟨"AerialSurveyModel", "isCell", "(II)Z"⟩, 20) := ⟨⟨by decide +kernel, by decide +kernel⟩, List.mem_of_getElem? (i := 493) (by decide +kernel), List.mem_of_getElem? (i := 572) (by decide +kernel), List.mem_of_getElem? (i := 573) (by decide +kernel)⟩
theorem lw_p4 : lw_okq (⟨"AerialSurveyModel", "put", "(IIII)V"⟩, 20) := ⟨⟨by decide +kernel, by decide +kernel⟩, List.mem_of_getElem? (i := 493) (by decide +kernel), List.mem_of_getElem? (i := 607) (by decide +kernel), List.mem_of_getElem? (i := 608) (by decide +kernel)⟩
theorem lw_p5 : lw_okq (⟨"AerialSurveyModel", "isStrip", "(I)Z"⟩, 20) := ⟨⟨by decide +kernel, by decide +kernel⟩, List.mem_of_getElem? (i := 493) (by decide +kernel), List.mem_of_getElem? (i := 615) (by decide +kernel), List.mem_of_getElem? (i := 616) (by decide +kernel)⟩
theorem lw_p6 : lw_okq (⟨"AerialSurveyModel", "photosOf", "(I)I"⟩, 20) := ⟨⟨by decide +kernel, by decide +kernel⟩, List.mem_of_getElem? (i := 493) (by decide +kernel), List.mem_of_getElem? (i := 627) (by decide +kernel), List.mem_of_getElem? (i := 628) (by decide +kernel)⟩
theorem lw_p7 : lw_okq (⟨"AerialSurveyModel", "checkPhoto", "(II)I"⟩, 20) := ⟨⟨by decide +kernel, by decide +kernel⟩, List.mem_of_getElem? (i := 493) (by decide +kernel), List.mem_of_getElem? (i := 635) (by decide +kernel), List.mem_of_getElem? (i := 636) (by decide +kernel)⟩
theorem lw_p8 : lw_okq (⟨"AerialSurveyModel", "columnOf", "(II)I"⟩, 20) := ⟨⟨by decide +kernel, by decide +kernel⟩, List.mem_of_getElem? (i := 493) (by decide +kernel), List.mem_of_getElem? (i := 639) (by decide +kernel), List.mem_of_getElem? (i := 640) (by decide +kernel)⟩
theorem lw_p9 : lw_okq (⟨"AerialSurveyModel", "sees", "(IIII)Z"⟩, 20) := ⟨⟨by decide +kernel, by decide +kernel⟩, List.mem_of_getElem? (i := 493) (by decide +kernel), List.mem_of_getElem? (i := 647) (by decide +kernel), List.mem_of_getElem? (i := 648) (by decide +kernel)⟩
theorem lw_p10 : lw_okq (⟨"AerialSurveyModel", "isBlocked", "(IIIII)Z"⟩, 20) := ⟨⟨by decide +kernel, by decide +kernel⟩, List.mem_of_getElem? (i := 493) (by decide +kernel), List.mem_of_getElem? (i := 651) (by decide +kernel), List.mem_of_getElem? (i := 652) (by decide +kernel)⟩
theorem lw_p11 : lw_okq (⟨"AerialSurveyModel", "footprint", "(II)I"⟩, 20) := ⟨⟨by decide +kernel, by decide +kernel⟩, List.mem_of_getElem? (i := 493) (by decide +kernel), List.mem_of_getElem? (i := 662) (by decide +kernel), List.mem_of_getElem? (i := 663) (by decide +kernel)⟩
theorem lw_p12 : lw_okq (⟨"AerialSurveyModel", "photoSees", "(III)Z"⟩, 20) := ⟨⟨by decide +kernel, by decide +kernel⟩, List.mem_of_getElem? (i := 493) (by decide +kernel), List.mem_of_getElem? (i := 666) (by decide +kernel), List.mem_of_getElem? (i := 667) (by decide +kernel)⟩
theorem lw_p13 : lw_okq (⟨"AerialSurveyModel", "coverageOf", "(I)I"⟩, 20) := ⟨⟨by decide +kernel, by decide +kernel⟩, List.mem_of_getElem? (i := 493) (by decide +kernel), List.mem_of_getElem? (i := 674) (by decide +kernel), List.mem_of_getElem? (i := 675) (by decide +kernel)⟩
theorem lw_p14 : lw_okq (⟨"AerialSurveyModel", "stripSees", "(II)Z"⟩, 20) := ⟨⟨by decide +kernel, by decide +kernel⟩, List.mem_of_getElem? (i := 493) (by decide +kernel), List.mem_of_getElem? (i := 700) (by decide +kernel), List.mem_of_getElem? (i := 701) (by decide +kernel)⟩
theorem lw_p15 : lw_okq (⟨"AerialSurveyModel", "findPlan", "(I)Z"⟩, 20) := ⟨⟨by decide +kernel, by decide +kernel⟩, List.mem_of_getElem? (i := 493) (by decide +kernel), List.mem_of_getElem? (i := 708) (by decide +kernel), List.mem_of_getElem? (i := 709) (by decide +kernel)⟩
def lw_privs_1 : List (MethodName × Nat) := [(⟨"AerialSurvey$Camera", "isLineFree", "(LAerialSurvey$Terrain;IIII)Z"⟩, 4), (⟨"AerialSurvey$Router", "fillTimes", "(LAerialSurvey$StripList;LAerialSurvey$Aircraft;)V"⟩, 3), (⟨"AerialSurvey$Router", "choose", "(LAerialSurvey$StripList;LAerialSurvey$Aircraft;III)V"⟩, 3), (⟨"AerialSurveyModel", "isCell", "(II)Z"⟩, 20), (⟨"AerialSurveyModel", "put", "(IIII)V"⟩, 20), (⟨"AerialSurveyModel", "isStrip", "(I)Z"⟩, 20), (⟨"AerialSurveyModel", "photosOf", "(I)I"⟩, 20), (⟨"AerialSurveyModel", "checkPhoto", "(II)I"⟩, 20), (⟨"AerialSurveyModel", "columnOf", "(II)I"⟩, 20), (⟨"AerialSurveyModel", "sees", "(IIII)Z"⟩, 20), (⟨"AerialSurveyModel", "isBlocked", "(IIIII)Z"⟩, 20), (⟨"AerialSurveyModel", "footprint", "(II)I"⟩, 20), (⟨"AerialSurveyModel", "photoSees", "(III)Z"⟩, 20), (⟨"AerialSurveyModel", "coverageOf", "(I)I"⟩, 20), (⟨"AerialSurveyModel", "stripSees", "(II)Z"⟩, 20), (⟨"AerialSurveyModel", "findPlan", "(I)Z"⟩, 20)]
theorem lw_r1 : ∀ q ∈ lw_privs_1, lw_okq q := List.forall_mem_cons.mpr ⟨lw_p0, List.forall_mem_cons.mpr ⟨lw_p1, List.forall_mem_cons.mpr ⟨lw_p2, List.forall_mem_cons.mpr ⟨lw_p3, List.forall_mem_cons.mpr ⟨lw_p4, List.forall_mem_cons.mpr ⟨lw_p5, List.forall_mem_cons.mpr ⟨lw_p6, List.forall_mem_cons.mpr ⟨lw_p7, List.forall_mem_cons.mpr ⟨lw_p8, List.forall_mem_cons.mpr ⟨lw_p9, List.forall_mem_cons.mpr ⟨lw_p10, List.forall_mem_cons.mpr ⟨lw_p11, List.forall_mem_cons.mpr ⟨lw_p12, List.forall_mem_cons.mpr ⟨lw_p13, List.forall_mem_cons.mpr ⟨lw_p14, List.forall_mem_cons.mpr ⟨lw_p15, fun _ h => absurd h List.not_mem_nil⟩⟩⟩⟩⟩⟩⟩⟩⟩⟩⟩⟩⟩⟩⟩⟩
theorem lw_p16 : lw_okq (⟨"AerialSurveyModel", "layOutVisibility", "()V"⟩, 20) := ⟨⟨by decide +kernel, by decide +kernel⟩, List.mem_of_getElem? (i := 493) (by decide +kernel), List.mem_of_getElem? (i := 712) (by decide +kernel), List.mem_of_getElem? (i := 713) (by decide +kernel)⟩
theorem lw_p17 : lw_okq (⟨"AerialSurveyModel", "photosBy", "(III)I"⟩, 20) := ⟨⟨by decide +kernel, by decide +kernel⟩, List.mem_of_getElem? (i := 493) (by decide +kernel), List.mem_of_getElem? (i := 717) (by decide +kernel), List.mem_of_getElem? (i := 718) (by decide +kernel)⟩
theorem lw_p18 : lw_okq (⟨"AerialSurveyModel", "isCovered", "(IIII)Z"⟩, 20) := ⟨⟨by decide +kernel, by decide +kernel⟩, List.mem_of_getElem? (i := 493) (by decide +kernel), List.mem_of_getElem? (i := 721) (by decide +kernel), List.mem_of_getElem? (i := 722) (by decide +kernel)⟩
theorem lw_p19 : lw_okq (⟨"AerialSurveyModel", "legTime", "(I)I"⟩, 20) := ⟨⟨by decide +kernel, by decide +kernel⟩, List.mem_of_getElem? (i := 493) (by decide +kernel), List.mem_of_getElem? (i := 741) (by decide +kernel), List.mem_of_getElem? (i := 742) (by decide +kernel)⟩
theorem lw_p20 : lw_okq (⟨"AerialSurveyModel", "findRests", "()V"⟩, 20) := ⟨⟨by decide +kernel, by decide +kernel⟩, List.mem_of_getElem? (i := 493) (by decide +kernel), List.mem_of_getElem? (i := 749) (by decide +kernel), List.mem_of_getElem? (i := 750) (by decide +kernel)⟩
theorem lw_p21 : lw_okq (⟨"AerialSurveyModel", "exitColumn", "(I)I"⟩, 20) := ⟨⟨by decide +kernel, by decide +kernel⟩, List.mem_of_getElem? (i := 493) (by decide +kernel), List.mem_of_getElem? (i := 753) (by decide +kernel), List.mem_of_getElem? (i := 754) (by decide +kernel)⟩
theorem lw_p22 : lw_okq (⟨"AerialSurveyModel", "leastFrom", "(III)I"⟩, 20) := ⟨⟨by decide +kernel, by decide +kernel⟩, List.mem_of_getElem? (i := 493) (by decide +kernel), List.mem_of_getElem? (i := 757) (by decide +kernel), List.mem_of_getElem? (i := 758) (by decide +kernel)⟩
theorem lw_p23 : lw_okq (⟨"AerialSurveyModel", "totalBy", "(IIII)I"⟩, 20) := ⟨⟨by decide +kernel, by decide +kernel⟩, List.mem_of_getElem? (i := 493) (by decide +kernel), List.mem_of_getElem? (i := 761) (by decide +kernel), List.mem_of_getElem? (i := 762) (by decide +kernel)⟩
theorem lw_p24 : lw_okq (⟨"AerialSurveyModel", "timeBy", "(III)I"⟩, 20) := ⟨⟨by decide +kernel, by decide +kernel⟩, List.mem_of_getElem? (i := 493) (by decide +kernel), List.mem_of_getElem? (i := 765) (by decide +kernel), List.mem_of_getElem? (i := 766) (by decide +kernel)⟩
theorem lw_p25 : lw_okq (⟨"AerialSurveyModel", "entryColumn", "(I)I"⟩, 20) := ⟨⟨by decide +kernel, by decide +kernel⟩, List.mem_of_getElem? (i := 493) (by decide +kernel), List.mem_of_getElem? (i := 769) (by decide +kernel), List.mem_of_getElem? (i := 770) (by decide +kernel)⟩
theorem lw_p26 : lw_okq (⟨"AerialSurveyModel", "firstLeg", "(III)I"⟩, 20) := ⟨⟨by decide +kernel, by decide +kernel⟩, List.mem_of_getElem? (i := 493) (by decide +kernel), List.mem_of_getElem? (i := 777) (by decide +kernel), List.mem_of_getElem? (i := 778) (by decide +kernel)⟩
def lw_privs_2 : List (MethodName × Nat) := [(⟨"AerialSurveyModel", "layOutVisibility", "()V"⟩, 20), (⟨"AerialSurveyModel", "photosBy", "(III)I"⟩, 20), (⟨"AerialSurveyModel", "isCovered", "(IIII)Z"⟩, 20), (⟨"AerialSurveyModel", "legTime", "(I)I"⟩, 20), (⟨"AerialSurveyModel", "findRests", "()V"⟩, 20), (⟨"AerialSurveyModel", "exitColumn", "(I)I"⟩, 20), (⟨"AerialSurveyModel", "leastFrom", "(III)I"⟩, 20), (⟨"AerialSurveyModel", "totalBy", "(IIII)I"⟩, 20), (⟨"AerialSurveyModel", "timeBy", "(III)I"⟩, 20), (⟨"AerialSurveyModel", "entryColumn", "(I)I"⟩, 20), (⟨"AerialSurveyModel", "firstLeg", "(III)I"⟩, 20)]
theorem lw_r2 : ∀ q ∈ lw_privs_2, lw_okq q := List.forall_mem_cons.mpr ⟨lw_p16, List.forall_mem_cons.mpr ⟨lw_p17, List.forall_mem_cons.mpr ⟨lw_p18, List.forall_mem_cons.mpr ⟨lw_p19, List.forall_mem_cons.mpr ⟨lw_p20, List.forall_mem_cons.mpr ⟨lw_p21, List.forall_mem_cons.mpr ⟨lw_p22, List.forall_mem_cons.mpr ⟨lw_p23, List.forall_mem_cons.mpr ⟨lw_p24, List.forall_mem_cons.mpr ⟨lw_p25, List.forall_mem_cons.mpr ⟨lw_p26, fun _ h => absurd h List.not_mem_nil⟩⟩⟩⟩⟩⟩⟩⟩⟩⟩⟩
def lw_privs : List (MethodName × Nat) := lw_privs_1 ++ (lw_privs_2)
def lw_tbl : List Cond := k2_sels lw_privs ++ tables_1
theorem lw_privs_ok : ∀ q ∈ lw_privs, lw_okq q := by
  show ∀ q ∈ lw_privs_1 ++ (lw_privs_2), lw_okq q
  exact List.forall_mem_append.mpr ⟨lw_r1, lw_r2⟩
end
section
/-! ===== BEGIN words of one list among another's, by their places ===== -/
theorem goodIn_r {big : List Cond} (ws : List Cond) (ps : List Nat) (hp : ws = ps.filterMap (fun i => big[i]?)) (h : ws.all goodWord = true) : GoodIn big ws := by
  intro w hw
  have h1 := List.all_eq_true.mp h w hw
  rw [hp] at hw
  obtain ⟨i, -, hi⟩ := List.mem_filterMap.mp hw
  have hm : w ∈ big := by first | exact List.mem_of_getElem? hi | exact List.getElem?_mem hi
  exact ⟨hm, good_of_word h1⟩
theorem goodIn_app {big a b : List Cond} (ha : GoodIn big a) (hb : GoodIn big b) : GoodIn big (a ++ b) := fun w h => (List.mem_append.mp h).elim (ha w) (hb w)
theorem goodIn_ca {big a b : List Cond} {c : Cond} (ha : GoodIn big (c :: a)) (hb : GoodIn big b) : GoodIn big (c :: (a ++ b)) := fun w h => (List.mem_cons.mp h).elim (fun e => ha w (List.mem_cons.mpr (Or.inl e))) (fun h => (List.mem_append.mp h).elim (fun h => ha w (List.mem_cons.mpr (Or.inr h))) (hb w))
theorem goodIn_sub {big ws : List Cond} (hm : ∀ w ∈ ws, w ∈ big) (h : ws.all goodWord = true) : GoodIn big ws := fun w hw => ⟨hm w hw, good_of_word (List.all_eq_true.mp h w hw)⟩
/-! ===== END ===== -/

/-! ===== BEGIN printed: names, fields, word lists, decode rows ===== -/
def RX0 : String := "AerialSurvey$Aircraft"
def TX0 : u_T := fun k => match k with
  | 0 => ("AerialSurvey$Aircraft", "airspeed", "I", false)
  | 1 => ("AerialSurvey$Aircraft", "tailwind", "I", false)
  | _ => ("AerialSurvey$Aircraft", "turnTime", "I", false)
def tyX0 : Nat → FieldType := fun k => match k with
  | 0 => .int
  | 1 => .int
  | _ => .int
abbrev wsX00 : List Cond := u_ws RX0 TX0 3
theorem nmX0 : ∀ a, a < 3 → ∀ b, b < 3 → a ≠ b → (TX0 a).2.1 ≠ (TX0 b).2.1 := by decide +kernel
theorem tyX0_ok : ∀ k, k < 3 → parseFieldDescriptor (TX0 k).2.2.1 = some (tyX0 k) := by decide +kernel
abbrev cX0_init : ByteArray := prog_2_method_1_code
def yX0_init : MethodName := ⟨RX0, "<init>", "()V"⟩
abbrev cX0_flightTime : ByteArray := prog_2_method_2_code
def yX0_flightTime : MethodName := ⟨RX0, "flightTime", "(LAerialSurvey$Strip;Z)I"⟩
abbrev cX0_transferTime : ByteArray := prog_2_method_3_code
def yX0_transferTime : MethodName := ⟨RX0, "transferTime", "(IILAerialSurvey$Strip;Z)I"⟩
def RX1 : String := "AerialSurvey$Camera"
def TX1 : u_T := fun k => match k with
  | 0 => ("AerialSurvey$Camera", "altitude", "I", false)
  | 1 => ("AerialSurvey$Camera", "alongField", "I", false)
  | 2 => ("AerialSurvey$Camera", "acrossField", "I", false)
  | _ => ("AerialSurvey$Camera", "crab", "I", false)
def tyX1 : Nat → FieldType := fun k => match k with
  | 0 => .int
  | 1 => .int
  | 2 => .int
  | _ => .int
abbrev wsX10 : List Cond := u_ws RX1 TX1 4
theorem nmX1 : ∀ a, a < 4 → ∀ b, b < 4 → a ≠ b → (TX1 a).2.1 ≠ (TX1 b).2.1 := by decide +kernel
theorem tyX1_ok : ∀ k, k < 4 → parseFieldDescriptor (TX1 k).2.2.1 = some (tyX1 k) := by decide +kernel
abbrev cX1_init : ByteArray := prog_3_method_1_code
def yX1_init : MethodName := ⟨RX1, "<init>", "()V"⟩
abbrev cX1_sees : ByteArray := prog_3_method_2_code
def yX1_sees : MethodName := ⟨RX1, "sees", "(LAerialSurvey$Terrain;IIII)Z"⟩
abbrev cX1_isLineFree : ByteArray := prog_3_method_3_code
def yX1_isLineFree : MethodName := ⟨RX1, "isLineFree", "(LAerialSurvey$Terrain;IIII)Z"⟩
def RX2 : String := "AerialSurvey$Overlap"
def TX2 : u_T := fun k => match k with
  | 0 => ("AerialSurvey$Overlap", "one", "I", false)
  | 1 => ("AerialSurvey$Overlap", "other", "I", false)
  | _ => ("AerialSurvey$Overlap", "both", "I", false)
def tyX2 : Nat → FieldType := fun k => match k with
  | 0 => .int
  | 1 => .int
  | _ => .int
abbrev wsX20 : List Cond := u_ws RX2 TX2 3
theorem nmX2 : ∀ a, a < 3 → ∀ b, b < 3 → a ≠ b → (TX2 a).2.1 ≠ (TX2 b).2.1 := by decide +kernel
theorem tyX2_ok : ∀ k, k < 3 → parseFieldDescriptor (TX2 k).2.2.1 = some (tyX2 k) := by decide +kernel
abbrev cX2_init : ByteArray := prog_4_method_1_code
def yX2_init : MethodName := ⟨RX2, "<init>", "()V"⟩
abbrev cX2_clear : ByteArray := prog_4_method_2_code
def yX2_clear : MethodName := ⟨RX2, "clear", "()V"⟩
abbrev cX2_countCell : ByteArray := prog_4_method_3_code
def yX2_countCell : MethodName := ⟨RX2, "countCell", "(ZZ)V"⟩
abbrev cX2_percent : ByteArray := prog_4_method_4_code
def yX2_percent : MethodName := ⟨RX2, "percent", "()I"⟩
def RX3 : String := "AerialSurvey$Planner"
def TX3 : u_T := fun k => match k with
  | 0 => ("AerialSurvey$Planner", "rowSpacing", "I", false)
  | 1 => ("AerialSurvey$Planner", "photoSpacing", "I", false)
  | 2 => ("AerialSurvey$Planner", "photos", "I", false)
  | _ => ("AerialSurvey$Planner", "trial", "LAerialSurvey$StripList;", true)
def tyX3 : Nat → FieldType := fun k => match k with
  | 0 => .int
  | 1 => .int
  | 2 => .int
  | _ => .object "AerialSurvey$StripList"
abbrev wsX30 : List Cond := u_ws RX3 TX3 4
theorem nmX3 : ∀ a, a < 4 → ∀ b, b < 4 → a ≠ b → (TX3 a).2.1 ≠ (TX3 b).2.1 := by decide +kernel
theorem tyX3_ok : ∀ k, k < 4 → parseFieldDescriptor (TX3 k).2.2.1 = some (tyX3 k) := by decide +kernel
abbrev cX3_init : ByteArray := prog_5_method_1_code
def yX3_init : MethodName := ⟨RX3, "<init>", "()V"⟩
abbrev cX3_search : ByteArray := prog_5_method_2_code
def yX3_search : MethodName := ⟨RX3, "search", "(LAerialSurvey$Terrain;LAerialSurvey$Camera;I)Z"⟩
def RX4 : String := "AerialSurvey$Router"
def TX4 : u_T := fun k => match k with
  | 0 => ("AerialSurvey$Router", "timeLeft", "[I", true)
  | 1 => ("AerialSurvey$Router", "chosenStep", "I", false)
  | _ => ("AerialSurvey$Router", "chosenTime", "I", false)
def tyX4 : Nat → FieldType := fun k => match k with
  | 0 => .array .int
  | 1 => .int
  | _ => .int
abbrev wsX40 : List Cond := u_ws RX4 TX4 3
theorem nmX4 : ∀ a, a < 3 → ∀ b, b < 3 → a ≠ b → (TX4 a).2.1 ≠ (TX4 b).2.1 := by decide +kernel
theorem tyX4_ok : ∀ k, k < 3 → parseFieldDescriptor (TX4 k).2.2.1 = some (tyX4 k) := by decide +kernel
abbrev cX4_init : ByteArray := prog_6_method_1_code
def yX4_init : MethodName := ⟨RX4, "<init>", "()V"⟩
abbrev cX4_fastestTime : ByteArray := prog_6_method_2_code
def yX4_fastestTime : MethodName := ⟨RX4, "fastestTime", "(LAerialSurvey$StripList;LAerialSurvey$Aircraft;II)I"⟩
abbrev cX4_fastestStep : ByteArray := prog_6_method_3_code
def yX4_fastestStep : MethodName := ⟨RX4, "fastestStep", "(LAerialSurvey$StripList;LAerialSurvey$Aircraft;III)I"⟩
abbrev cX4_fillTimes : ByteArray := prog_6_method_4_code
def yX4_fillTimes : MethodName := ⟨RX4, "fillTimes", "(LAerialSurvey$StripList;LAerialSurvey$Aircraft;)V"⟩
abbrev cX4_choose : ByteArray := prog_6_method_5_code
def yX4_choose : MethodName := ⟨RX4, "choose", "(LAerialSurvey$StripList;LAerialSurvey$Aircraft;III)V"⟩
abbrev cX4_isIn : ByteArray := prog_6_method_6_code
def yX4_isIn : MethodName := ⟨RX4, "isIn", "(II)Z"⟩
abbrev cX4_isEastbound : ByteArray := prog_6_method_7_code
def yX4_isEastbound : MethodName := ⟨RX4, "isEastbound", "(I)Z"⟩
def RX5 : String := "AerialSurvey$Strip"
def TX5 : u_T := fun k => match k with
  | 0 => ("AerialSurvey$Strip", "row", "I", false)
  | 1 => ("AerialSurvey$Strip", "first", "I", false)
  | 2 => ("AerialSurvey$Strip", "last", "I", false)
  | _ => ("AerialSurvey$Strip", "spacing", "I", false)
def tyX5 : Nat → FieldType := fun k => match k with
  | 0 => .int
  | 1 => .int
  | 2 => .int
  | _ => .int
abbrev wsX50 : List Cond := u_ws RX5 TX5 4
theorem nmX5 : ∀ a, a < 4 → ∀ b, b < 4 → a ≠ b → (TX5 a).2.1 ≠ (TX5 b).2.1 := by decide +kernel
theorem tyX5_ok : ∀ k, k < 4 → parseFieldDescriptor (TX5 k).2.2.1 = some (tyX5 k) := by decide +kernel
abbrev cX5_init : ByteArray := prog_7_method_1_code
def yX5_init : MethodName := ⟨RX5, "<init>", "()V"⟩
abbrev cX5_put : ByteArray := prog_7_method_2_code
def yX5_put : MethodName := ⟨RX5, "put", "(IIII)V"⟩
abbrev cX5_photos : ByteArray := prog_7_method_3_code
def yX5_photos : MethodName := ⟨RX5, "photos", "()I"⟩
abbrev cX5_hasPhoto : ByteArray := prog_7_method_4_code
def yX5_hasPhoto : MethodName := ⟨RX5, "hasPhoto", "(I)Z"⟩
abbrev cX5_columnOf : ByteArray := prog_7_method_5_code
def yX5_columnOf : MethodName := ⟨RX5, "columnOf", "(I)I"⟩
abbrev cX5_entryColumn : ByteArray := prog_7_method_6_code
def yX5_entryColumn : MethodName := ⟨RX5, "entryColumn", "(Z)I"⟩
abbrev cX5_exitColumn : ByteArray := prog_7_method_7_code
def yX5_exitColumn : MethodName := ⟨RX5, "exitColumn", "(Z)I"⟩
abbrev cX5_sees : ByteArray := prog_7_method_8_code
def yX5_sees : MethodName := ⟨RX5, "sees", "(LAerialSurvey$Terrain;LAerialSurvey$Camera;II)Z"⟩
def RX6 : String := "AerialSurvey$StripList"
def TX6 : u_T := fun k => match k with
  | 0 => ("AerialSurvey$StripList", "count", "I", false)
  | _ => ("AerialSurvey$StripList", "strips", "[LAerialSurvey$Strip;", true)
def tyX6 : Nat → FieldType := fun k => match k with
  | 0 => .int
  | _ => .array (.object "AerialSurvey$Strip")
abbrev wsX60 : List Cond := u_ws RX6 TX6 2
theorem nmX6 : ∀ a, a < 2 → ∀ b, b < 2 → a ≠ b → (TX6 a).2.1 ≠ (TX6 b).2.1 := by decide +kernel
theorem tyX6_ok : ∀ k, k < 2 → parseFieldDescriptor (TX6 k).2.2.1 = some (tyX6 k) := by decide +kernel
abbrev cX6_init : ByteArray := prog_8_method_1_code
def yX6_init : MethodName := ⟨RX6, "<init>", "()V"⟩
abbrev cX6_clear : ByteArray := prog_8_method_2_code
def yX6_clear : MethodName := ⟨RX6, "clear", "()V"⟩
abbrev cX6_find : ByteArray := prog_8_method_3_code
def yX6_find : MethodName := ⟨RX6, "find", "(I)LAerialSurvey$Strip;"⟩
abbrev cX6_add : ByteArray := prog_8_method_4_code
def yX6_add : MethodName := ⟨RX6, "add", "(IIII)I"⟩
abbrev cX6_remove : ByteArray := prog_8_method_5_code
def yX6_remove : MethodName := ⟨RX6, "remove", "(I)V"⟩
abbrev cX6_layOut : ByteArray := prog_8_method_6_code
def yX6_layOut : MethodName := ⟨RX6, "layOut", "(LAerialSurvey$Terrain;II)Z"⟩
abbrev cX6_photoTotal : ByteArray := prog_8_method_7_code
def yX6_photoTotal : MethodName := ⟨RX6, "photoTotal", "()I"⟩
abbrev cX6_views : ByteArray := prog_8_method_8_code
def yX6_views : MethodName := ⟨RX6, "views", "(LAerialSurvey$Terrain;LAerialSurvey$Camera;III)I"⟩
abbrev cX6_leavesGap : ByteArray := prog_8_method_9_code
def yX6_leavesGap : MethodName := ⟨RX6, "leavesGap", "(LAerialSurvey$Terrain;LAerialSurvey$Camera;I)Z"⟩
def RX7 : String := "AerialSurvey$Terrain"
def TX7 : u_T := fun k => match k with
  | 0 => ("AerialSurvey$Terrain", "rows", "I", false)
  | 1 => ("AerialSurvey$Terrain", "columns", "I", false)
  | _ => ("AerialSurvey$Terrain", "heights", "[I", true)
def tyX7 : Nat → FieldType := fun k => match k with
  | 0 => .int
  | 1 => .int
  | _ => .array .int
abbrev wsX70 : List Cond := u_ws RX7 TX7 3
theorem nmX7 : ∀ a, a < 3 → ∀ b, b < 3 → a ≠ b → (TX7 a).2.1 ≠ (TX7 b).2.1 := by decide +kernel
theorem tyX7_ok : ∀ k, k < 3 → parseFieldDescriptor (TX7 k).2.2.1 = some (tyX7 k) := by decide +kernel
abbrev cX7_init : ByteArray := prog_9_method_1_code
def yX7_init : MethodName := ⟨RX7, "<init>", "()V"⟩
abbrev cX7_contains : ByteArray := prog_9_method_2_code
def yX7_contains : MethodName := ⟨RX7, "contains", "(II)Z"⟩
abbrev cX7_flatten : ByteArray := prog_9_method_3_code
def yX7_flatten : MethodName := ⟨RX7, "flatten", "(II)V"⟩
abbrev cX7_heightAt : ByteArray := prog_9_method_4_code
def yX7_heightAt : MethodName := ⟨RX7, "heightAt", "(II)I"⟩
abbrev cX7_put : ByteArray := prog_9_method_5_code
def yX7_put : MethodName := ⟨RX7, "put", "(III)V"⟩
abbrev cX7_raise : ByteArray := prog_9_method_6_code
def yX7_raise : MethodName := ⟨RX7, "raise", "(IIII)I"⟩
def RX8 : String := "AerialSurvey"
def TX8 : u_T := fun k => match k with
  | 0 => ("AerialSurvey", "terrain", "LAerialSurvey$Terrain;", true)
  | 1 => ("AerialSurvey", "camera", "LAerialSurvey$Camera;", true)
  | 2 => ("AerialSurvey", "aircraft", "LAerialSurvey$Aircraft;", true)
  | 3 => ("AerialSurvey", "strips", "LAerialSurvey$StripList;", true)
  | 4 => ("AerialSurvey", "overlap", "LAerialSurvey$Overlap;", true)
  | 5 => ("AerialSurvey", "planner", "LAerialSurvey$Planner;", true)
  | _ => ("AerialSurvey", "router", "LAerialSurvey$Router;", true)
def tyX8 : Nat → FieldType := fun k => match k with
  | 0 => .object "AerialSurvey$Terrain"
  | 1 => .object "AerialSurvey$Camera"
  | 2 => .object "AerialSurvey$Aircraft"
  | 3 => .object "AerialSurvey$StripList"
  | 4 => .object "AerialSurvey$Overlap"
  | 5 => .object "AerialSurvey$Planner"
  | _ => .object "AerialSurvey$Router"
abbrev wsX80 : List Cond := u_ws RX8 TX8 7
theorem nmX8 : ∀ a, a < 7 → ∀ b, b < 7 → a ≠ b → (TX8 a).2.1 ≠ (TX8 b).2.1 := by decide +kernel
theorem tyX8_ok : ∀ k, k < 7 → parseFieldDescriptor (TX8 k).2.2.1 = some (tyX8 k) := by decide +kernel
abbrev cX8_init : ByteArray := prog_1_method_1_code
def yX8_init : MethodName := ⟨RX8, "<init>", "()V"⟩
abbrev cX8_resize : ByteArray := prog_1_method_2_code
def yX8_resize : MethodName := ⟨RX8, "resize", "(II)I"⟩
abbrev cX8_setHeight : ByteArray := prog_1_method_3_code
def yX8_setHeight : MethodName := ⟨RX8, "setHeight", "(III)I"⟩
abbrev cX8_raiseHill : ByteArray := prog_1_method_4_code
def yX8_raiseHill : MethodName := ⟨RX8, "raiseHill", "(IIII)I"⟩
abbrev cX8_height : ByteArray := prog_1_method_5_code
def yX8_height : MethodName := ⟨RX8, "height", "(II)I"⟩
abbrev cX8_setAltitude : ByteArray := prog_1_method_6_code
def yX8_setAltitude : MethodName := ⟨RX8, "setAltitude", "(I)I"⟩
abbrev cX8_setFields : ByteArray := prog_1_method_7_code
def yX8_setFields : MethodName := ⟨RX8, "setFields", "(II)I"⟩
abbrev cX8_setCrab : ByteArray := prog_1_method_8_code
def yX8_setCrab : MethodName := ⟨RX8, "setCrab", "(I)I"⟩
abbrev cX8_setSpeed : ByteArray := prog_1_method_9_code
def yX8_setSpeed : MethodName := ⟨RX8, "setSpeed", "(III)I"⟩
abbrev cX8_addStrip : ByteArray := prog_1_method_10_code
def yX8_addStrip : MethodName := ⟨RX8, "addStrip", "(IIII)I"⟩
abbrev cX8_removeStrip : ByteArray := prog_1_method_11_code
def yX8_removeStrip : MethodName := ⟨RX8, "removeStrip", "(I)I"⟩
abbrev cX8_stripCount : ByteArray := prog_1_method_12_code
def yX8_stripCount : MethodName := ⟨RX8, "stripCount", "()I"⟩
abbrev cX8_photoCount : ByteArray := prog_1_method_13_code
def yX8_photoCount : MethodName := ⟨RX8, "photoCount", "(I)I"⟩
abbrev cX8_photoColumn : ByteArray := prog_1_method_14_code
def yX8_photoColumn : MethodName := ⟨RX8, "photoColumn", "(II)I"⟩
abbrev cX8_seesCell : ByteArray := prog_1_method_15_code
def yX8_seesCell : MethodName := ⟨RX8, "seesCell", "(IIII)I"⟩
abbrev cX8_footprintSize : ByteArray := prog_1_method_16_code
def yX8_footprintSize : MethodName := ⟨RX8, "footprintSize", "(II)I"⟩
abbrev cX8_coverage : ByteArray := prog_1_method_17_code
def yX8_coverage : MethodName := ⟨RX8, "coverage", "(II)I"⟩
abbrev cX8_gapCount : ByteArray := prog_1_method_18_code
def yX8_gapCount : MethodName := ⟨RX8, "gapCount", "(I)I"⟩
abbrev cX8_gapAt : ByteArray := prog_1_method_19_code
def yX8_gapAt : MethodName := ⟨RX8, "gapAt", "(II)I"⟩
abbrev cX8_forwardOverlap : ByteArray := prog_1_method_20_code
def yX8_forwardOverlap : MethodName := ⟨RX8, "forwardOverlap", "(II)I"⟩
abbrev cX8_sideOverlap : ByteArray := prog_1_method_21_code
def yX8_sideOverlap : MethodName := ⟨RX8, "sideOverlap", "(II)I"⟩
abbrev cX8_planPhotos : ByteArray := prog_1_method_22_code
def yX8_planPhotos : MethodName := ⟨RX8, "planPhotos", "(I)I"⟩
abbrev cX8_planRowSpacing : ByteArray := prog_1_method_23_code
def yX8_planRowSpacing : MethodName := ⟨RX8, "planRowSpacing", "(I)I"⟩
abbrev cX8_planPhotoSpacing : ByteArray := prog_1_method_24_code
def yX8_planPhotoSpacing : MethodName := ⟨RX8, "planPhotoSpacing", "(I)I"⟩
abbrev cX8_applyPlan : ByteArray := prog_1_method_25_code
def yX8_applyPlan : MethodName := ⟨RX8, "applyPlan", "(I)I"⟩
abbrev cX8_stripTime : ByteArray := prog_1_method_26_code
def yX8_stripTime : MethodName := ⟨RX8, "stripTime", "(IZ)I"⟩
abbrev cX8_routeTime : ByteArray := prog_1_method_27_code
def yX8_routeTime : MethodName := ⟨RX8, "routeTime", "(II)I"⟩
abbrev cX8_routeStep : ByteArray := prog_1_method_28_code
def yX8_routeStep : MethodName := ⟨RX8, "routeStep", "(III)I"⟩
abbrev cX8_isWithin : ByteArray := prog_1_method_29_code
def yX8_isWithin : MethodName := ⟨RX8, "isWithin", "(III)Z"⟩
abbrev cX8_quotient : ByteArray := prog_1_method_30_code
def yX8_quotient : MethodName := ⟨RX8, "quotient", "(II)I"⟩
def RX9 : String := "AerialSurveyModel"
def TX9 : u_T := fun k => match k with
  | 0 => ("AerialSurveyModel", "rows", "I", false)
  | 1 => ("AerialSurveyModel", "columns", "I", false)
  | 2 => ("AerialSurveyModel", "altitude", "I", false)
  | 3 => ("AerialSurveyModel", "along", "I", false)
  | 4 => ("AerialSurveyModel", "across", "I", false)
  | 5 => ("AerialSurveyModel", "crabNow", "I", false)
  | 6 => ("AerialSurveyModel", "airspeedNow", "I", false)
  | 7 => ("AerialSurveyModel", "tailwindNow", "I", false)
  | 8 => ("AerialSurveyModel", "turnNow", "I", false)
  | 9 => ("AerialSurveyModel", "ground", "[I", true)
  | 10 => ("AerialSurveyModel", "strips", "I", false)
  | 11 => ("AerialSurveyModel", "rowOf", "[I", true)
  | 12 => ("AerialSurveyModel", "firstOf", "[I", true)
  | 13 => ("AerialSurveyModel", "lastOf", "[I", true)
  | 14 => ("AerialSurveyModel", "spacingOf", "[I", true)
  | 15 => ("AerialSurveyModel", "seenFrom", "[Z", true)
  | 16 => ("AerialSurveyModel", "planPhotos", "I", false)
  | 17 => ("AerialSurveyModel", "planRows", "I", false)
  | 18 => ("AerialSurveyModel", "planSpacing", "I", false)
  | _ => ("AerialSurveyModel", "rest", "[I", true)
def tyX9 : Nat → FieldType := fun k => match k with
  | 0 => .int
  | 1 => .int
  | 2 => .int
  | 3 => .int
  | 4 => .int
  | 5 => .int
  | 6 => .int
  | 7 => .int
  | 8 => .int
  | 9 => .array .int
  | 10 => .int
  | 11 => .array .int
  | 12 => .array .int
  | 13 => .array .int
  | 14 => .array .int
  | 15 => .array .boolean
  | 16 => .int
  | 17 => .int
  | 18 => .int
  | _ => .array .int
abbrev wsX90 : List Cond := u_ws RX9 TX9 20
theorem nmX9 : ∀ a, a < 20 → ∀ b, b < 20 → a ≠ b → (TX9 a).2.1 ≠ (TX9 b).2.1 := by decide +kernel
theorem tyX9_ok : ∀ k, k < 20 → parseFieldDescriptor (TX9 k).2.2.1 = some (tyX9 k) := by decide +kernel
abbrev cX9_init : ByteArray := prog_11_method_1_code
def yX9_init : MethodName := ⟨RX9, "<init>", "()V"⟩
abbrev cX9_isBetween : ByteArray := prog_11_method_2_code
def yX9_isBetween : MethodName := ⟨RX9, "isBetween", "(III)Z"⟩
abbrev cX9_size : ByteArray := prog_11_method_3_code
def yX9_size : MethodName := ⟨RX9, "size", "(I)I"⟩
abbrev cX9_isCell : ByteArray := prog_11_method_4_code
def yX9_isCell : MethodName := ⟨RX9, "isCell", "(II)Z"⟩
abbrev cX9_resize : ByteArray := prog_11_method_5_code
def yX9_resize : MethodName := ⟨RX9, "resize", "(II)I"⟩
abbrev cX9_setHeight : ByteArray := prog_11_method_6_code
def yX9_setHeight : MethodName := ⟨RX9, "setHeight", "(III)I"⟩
abbrev cX9_raiseHill : ByteArray := prog_11_method_7_code
def yX9_raiseHill : MethodName := ⟨RX9, "raiseHill", "(IIII)I"⟩
abbrev cX9_height : ByteArray := prog_11_method_8_code
def yX9_height : MethodName := ⟨RX9, "height", "(II)I"⟩
abbrev cX9_setAltitude : ByteArray := prog_11_method_9_code
def yX9_setAltitude : MethodName := ⟨RX9, "setAltitude", "(I)I"⟩
abbrev cX9_setFields : ByteArray := prog_11_method_10_code
def yX9_setFields : MethodName := ⟨RX9, "setFields", "(II)I"⟩
abbrev cX9_setCrab : ByteArray := prog_11_method_11_code
def yX9_setCrab : MethodName := ⟨RX9, "setCrab", "(I)I"⟩
abbrev cX9_setSpeed : ByteArray := prog_11_method_12_code
def yX9_setSpeed : MethodName := ⟨RX9, "setSpeed", "(III)I"⟩
abbrev cX9_isStrip : ByteArray := prog_11_method_13_code
def yX9_isStrip : MethodName := ⟨RX9, "isStrip", "(I)Z"⟩
abbrev cX9_put : ByteArray := prog_11_method_14_code
def yX9_put : MethodName := ⟨RX9, "put", "(IIII)V"⟩
abbrev cX9_addStrip : ByteArray := prog_11_method_15_code
def yX9_addStrip : MethodName := ⟨RX9, "addStrip", "(IIII)I"⟩
abbrev cX9_removeStrip : ByteArray := prog_11_method_16_code
def yX9_removeStrip : MethodName := ⟨RX9, "removeStrip", "(I)I"⟩
abbrev cX9_stripCount : ByteArray := prog_11_method_17_code
def yX9_stripCount : MethodName := ⟨RX9, "stripCount", "()I"⟩
abbrev cX9_photosOf : ByteArray := prog_11_method_18_code
def yX9_photosOf : MethodName := ⟨RX9, "photosOf", "(I)I"⟩
abbrev cX9_columnOf : ByteArray := prog_11_method_19_code
def yX9_columnOf : MethodName := ⟨RX9, "columnOf", "(II)I"⟩
abbrev cX9_checkPhoto : ByteArray := prog_11_method_20_code
def yX9_checkPhoto : MethodName := ⟨RX9, "checkPhoto", "(II)I"⟩
abbrev cX9_photoCount : ByteArray := prog_11_method_21_code
def yX9_photoCount : MethodName := ⟨RX9, "photoCount", "(I)I"⟩
abbrev cX9_photoColumn : ByteArray := prog_11_method_22_code
def yX9_photoColumn : MethodName := ⟨RX9, "photoColumn", "(II)I"⟩
abbrev cX9_nearest : ByteArray := prog_11_method_23_code
def yX9_nearest : MethodName := ⟨RX9, "nearest", "(II)I"⟩
abbrev cX9_isBlocked : ByteArray := prog_11_method_24_code
def yX9_isBlocked : MethodName := ⟨RX9, "isBlocked", "(IIIII)Z"⟩
abbrev cX9_sees : ByteArray := prog_11_method_25_code
def yX9_sees : MethodName := ⟨RX9, "sees", "(IIII)Z"⟩
abbrev cX9_photoSees : ByteArray := prog_11_method_26_code
def yX9_photoSees : MethodName := ⟨RX9, "photoSees", "(III)Z"⟩
abbrev cX9_seesCell : ByteArray := prog_11_method_27_code
def yX9_seesCell : MethodName := ⟨RX9, "seesCell", "(IIII)I"⟩
abbrev cX9_footprint : ByteArray := prog_11_method_28_code
def yX9_footprint : MethodName := ⟨RX9, "footprint", "(II)I"⟩
abbrev cX9_footprintSize : ByteArray := prog_11_method_29_code
def yX9_footprintSize : MethodName := ⟨RX9, "footprintSize", "(II)I"⟩
abbrev cX9_coverageOf : ByteArray := prog_11_method_30_code
def yX9_coverageOf : MethodName := ⟨RX9, "coverageOf", "(I)I"⟩
abbrev cX9_coverage : ByteArray := prog_11_method_31_code
def yX9_coverage : MethodName := ⟨RX9, "coverage", "(II)I"⟩
abbrev cX9_isRequired : ByteArray := prog_11_method_32_code
def yX9_isRequired : MethodName := ⟨RX9, "isRequired", "(I)Z"⟩
abbrev cX9_gapCount : ByteArray := prog_11_method_33_code
def yX9_gapCount : MethodName := ⟨RX9, "gapCount", "(I)I"⟩
abbrev cX9_gapAt : ByteArray := prog_11_method_34_code
def yX9_gapAt : MethodName := ⟨RX9, "gapAt", "(II)I"⟩
abbrev cX9_percent : ByteArray := prog_11_method_35_code
def yX9_percent : MethodName := ⟨RX9, "percent", "(III)I"⟩
abbrev cX9_forwardOverlap : ByteArray := prog_11_method_36_code
def yX9_forwardOverlap : MethodName := ⟨RX9, "forwardOverlap", "(II)I"⟩
abbrev cX9_stripSees : ByteArray := prog_11_method_37_code
def yX9_stripSees : MethodName := ⟨RX9, "stripSees", "(II)Z"⟩
abbrev cX9_sideOverlap : ByteArray := prog_11_method_38_code
def yX9_sideOverlap : MethodName := ⟨RX9, "sideOverlap", "(II)I"⟩
abbrev cX9_layOutVisibility : ByteArray := prog_11_method_39_code
def yX9_layOutVisibility : MethodName := ⟨RX9, "layOutVisibility", "()V"⟩
abbrev cX9_isCovered : ByteArray := prog_11_method_40_code
def yX9_isCovered : MethodName := ⟨RX9, "isCovered", "(IIII)Z"⟩
abbrev cX9_photosBy : ByteArray := prog_11_method_41_code
def yX9_photosBy : MethodName := ⟨RX9, "photosBy", "(III)I"⟩
abbrev cX9_findPlan : ByteArray := prog_11_method_42_code
def yX9_findPlan : MethodName := ⟨RX9, "findPlan", "(I)Z"⟩
abbrev cX9_planPhotos : ByteArray := prog_11_method_43_code
def yX9_planPhotos : MethodName := ⟨RX9, "planPhotos", "(I)I"⟩
abbrev cX9_planRowSpacing : ByteArray := prog_11_method_44_code
def yX9_planRowSpacing : MethodName := ⟨RX9, "planRowSpacing", "(I)I"⟩
abbrev cX9_planPhotoSpacing : ByteArray := prog_11_method_45_code
def yX9_planPhotoSpacing : MethodName := ⟨RX9, "planPhotoSpacing", "(I)I"⟩
abbrev cX9_applyPlan : ByteArray := prog_11_method_46_code
def yX9_applyPlan : MethodName := ⟨RX9, "applyPlan", "(I)I"⟩
abbrev cX9_legTime : ByteArray := prog_11_method_47_code
def yX9_legTime : MethodName := ⟨RX9, "legTime", "(I)I"⟩
abbrev cX9_stripTime : ByteArray := prog_11_method_48_code
def yX9_stripTime : MethodName := ⟨RX9, "stripTime", "(IZ)I"⟩
abbrev cX9_entryColumn : ByteArray := prog_11_method_49_code
def yX9_entryColumn : MethodName := ⟨RX9, "entryColumn", "(I)I"⟩
abbrev cX9_exitColumn : ByteArray := prog_11_method_50_code
def yX9_exitColumn : MethodName := ⟨RX9, "exitColumn", "(I)I"⟩
abbrev cX9_timeBy : ByteArray := prog_11_method_51_code
def yX9_timeBy : MethodName := ⟨RX9, "timeBy", "(III)I"⟩
abbrev cX9_findRests : ByteArray := prog_11_method_52_code
def yX9_findRests : MethodName := ⟨RX9, "findRests", "()V"⟩
abbrev cX9_totalBy : ByteArray := prog_11_method_53_code
def yX9_totalBy : MethodName := ⟨RX9, "totalBy", "(IIII)I"⟩
abbrev cX9_leastFrom : ByteArray := prog_11_method_54_code
def yX9_leastFrom : MethodName := ⟨RX9, "leastFrom", "(III)I"⟩
abbrev cX9_routeTime : ByteArray := prog_11_method_55_code
def yX9_routeTime : MethodName := ⟨RX9, "routeTime", "(II)I"⟩
abbrev cX9_firstLeg : ByteArray := prog_11_method_56_code
def yX9_firstLeg : MethodName := ⟨RX9, "firstLeg", "(III)I"⟩
abbrev cX9_routeStep : ByteArray := prog_11_method_57_code
def yX9_routeStep : MethodName := ⟨RX9, "routeStep", "(III)I"⟩
def RJ9 : String := "java/lang/Math"
def TJ9 : u_T := fun k => match k with
  | _ => ("", "", "", false)
def tyJ9 : Nat → FieldType := fun k => match k with
  | _ => .int
abbrev wsJ90 : List Cond := u_ws RJ9 TJ9 0
theorem nmJ9 : ∀ a, a < 0 → ∀ b, b < 0 → a ≠ b → (TJ9 a).2.1 ≠ (TJ9 b).2.1 := by decide +kernel
theorem tyJ9_ok : ∀ k, k < 0 → parseFieldDescriptor (TJ9 k).2.2.1 = some (tyJ9 k) := by decide +kernel
abbrev cJ9_floorDiv_7cf53 : ByteArray := prog_12_method_47_code
def yJ9_floorDiv_7cf53 : MethodName := ⟨RJ9, "floorDiv", "(II)I"⟩
abbrev cJ9_abs_0f7a4 : ByteArray := prog_12_method_59_code
def yJ9_abs_0f7a4 : MethodName := ⟨RJ9, "abs", "(I)I"⟩
abbrev cJ9_max_7cf53 : ByteArray := prog_12_method_65_code
def yJ9_max_7cf53 : MethodName := ⟨RJ9, "max", "(II)I"⟩
abbrev cJ9_min_7cf53 : ByteArray := prog_12_method_69_code
def yJ9_min_7cf53 : MethodName := ⟨RJ9, "min", "(II)I"⟩
def RL : String := "AerialSurveyLaw"
abbrev cL_law : ByteArray := code
def yL_law : MethodName := ⟨RL, "law", "([I)Z"⟩
def wsX0_init : List Cond := .code yX0_init cX0_init 1 none :: ([.methodLink RX0 1 objectInit, .instanceMethod objectInit, .code objectInit ⟨#[0xb1]⟩ 1 none, .fieldLink RX0 7 "AerialSurvey$Aircraft" "airspeed" "I", .fieldLink RX0 13 "AerialSurvey$Aircraft" "tailwind" "I", .fieldLink RX0 16 "AerialSurvey$Aircraft" "turnTime" "I"] ++ wsX00)
def wsX8_quotient : List Cond := .code yX8_quotient cX8_quotient 2 (some .int) :: ([])
def wsX0_flightTime : List Cond := .code yX0_flightTime cX0_flightTime 4 (some .int) :: ([.fieldLink RX0 7 "AerialSurvey$Aircraft" "airspeed" "I", .fieldLink RX0 13 "AerialSurvey$Aircraft" "tailwind" "I", .fieldLink RX0 19 "AerialSurvey$Strip" "last" "I", .fieldLink RX0 24 "AerialSurvey$Strip" "first" "I", .static yX8_quotient, .initialized RX8, .code yX8_quotient cX8_quotient 2 (some .int)] ++ wsX00 ++ wsX50)
def wsX5_entryColumn : List Cond := .code yX5_entryColumn cX5_entryColumn 2 (some .int) :: ([.fieldLink RX5 13 "AerialSurvey$Strip" "first" "I", .fieldLink RX5 16 "AerialSurvey$Strip" "last" "I"] ++ wsX50)
def wsX0_transferTime : List Cond := .code yX0_transferTime cX0_transferTime 6 (some .int) :: ([.fieldLink RX0 33 "AerialSurvey$Strip" "row" "I", .methodLink RX0 36 Lib.Math.abs.name, .static Lib.Math.abs.name, .initialized "java/lang/Math", .code Lib.Math.abs.name Lib.Math.abs.code 1 (some .int), .fieldLink RX0 7 "AerialSurvey$Aircraft" "airspeed" "I", .fieldLink RX0 16 "AerialSurvey$Aircraft" "turnTime" "I", .methodLink RX0 42 yX5_entryColumn, .instanceMethod yX5_entryColumn, .selects RX5 yX5_entryColumn yX5_entryColumn, .initialized RX5, .code yX5_entryColumn cX5_entryColumn 2 (some .int), .fieldLink RX5 13 "AerialSurvey$Strip" "first" "I", .fieldLink RX5 16 "AerialSurvey$Strip" "last" "I", .static yX8_quotient, .initialized RX8, .code yX8_quotient cX8_quotient 2 (some .int)] ++ wsX50 ++ wsX00)
def wsX1_init : List Cond := .code yX1_init cX1_init 1 none :: ([.methodLink RX1 1 objectInit, .instanceMethod objectInit, .code objectInit ⟨#[0xb1]⟩ 1 none, .fieldLink RX1 7 "AerialSurvey$Camera" "altitude" "I", .fieldLink RX1 13 "AerialSurvey$Camera" "alongField" "I", .fieldLink RX1 16 "AerialSurvey$Camera" "acrossField" "I", .fieldLink RX1 19 "AerialSurvey$Camera" "crab" "I"] ++ wsX10)
def wsX7_heightAt : List Cond := .code yX7_heightAt cX7_heightAt 4 (some .int) :: ([.fieldLink RX7 18 "AerialSurvey$Terrain" "heights" "[I"] ++ wsX70)
def wsJ9_floorDiv_7cf53 : List Cond := .code yJ9_floorDiv_7cf53 cJ9_floorDiv_7cf53 3 (some .int) :: ([])
def wsX1_isLineFree : List Cond := .code yX1_isLineFree cX1_isLineFree 14 (some .boolean) :: ([.methodLink RX1 28 Lib.Math.abs.name, .static Lib.Math.abs.name, .initialized "java/lang/Math", .code Lib.Math.abs.name Lib.Math.abs.code 1 (some .int), .methodLink RX1 38 Lib.Math.max.name, .static Lib.Math.max.name, .code Lib.Math.max.name Lib.Math.max.code 2 (some .int), .fieldLink RX1 7 "AerialSurvey$Camera" "altitude" "I", .methodLink RX1 22 yX7_heightAt, .instanceMethod yX7_heightAt, .selects RX7 yX7_heightAt yX7_heightAt, .initialized RX7, .code yX7_heightAt cX7_heightAt 4 (some .int), .fieldLink RX7 18 "AerialSurvey$Terrain" "heights" "[I", .methodLink RX1 41 yJ9_floorDiv_7cf53, .static yJ9_floorDiv_7cf53, .initialized RJ9, .code yJ9_floorDiv_7cf53 cJ9_floorDiv_7cf53 3 (some .int)] ++ wsX10 ++ wsX70)
def wsX1_sees_r1 : List Cond := [Cond.fieldLink RX1 7 "AerialSurvey$Camera" "altitude" "I", Cond.fieldLink RX1 19 "AerialSurvey$Camera" "crab" "I", Cond.methodLink RX1 28 Lib.Math.abs.name, Cond.static Lib.Math.abs.name, Cond.initialized "java/lang/Math", Cond.code Lib.Math.abs.name Lib.Math.abs.code 1 (some .int), Cond.fieldLink RX1 13 "AerialSurvey$Camera" "alongField" "I", Cond.fieldLink RX1 16 "AerialSurvey$Camera" "acrossField" "I", Cond.methodLink RX1 22 yX7_heightAt, Cond.instanceMethod yX7_heightAt, Cond.selects RX7 yX7_heightAt yX7_heightAt, Cond.initialized RX7, Cond.code yX7_heightAt cX7_heightAt 4 (some .int), Cond.fieldLink RX7 18 "AerialSurvey$Terrain" "heights" "[I", Cond.methodLink RX1 34 yX1_isLineFree, Cond.instanceMethod yX1_isLineFree, Cond.selects RX1 yX1_isLineFree yX1_isLineFree, Cond.initialized RX1, Cond.code yX1_isLineFree cX1_isLineFree 14 (some .boolean), Cond.methodLink RX1 38 Lib.Math.max.name, Cond.static Lib.Math.max.name, Cond.code Lib.Math.max.name Lib.Math.max.code 2 (some .int), Cond.methodLink RX1 41 yJ9_floorDiv_7cf53, Cond.static yJ9_floorDiv_7cf53]
def wsX1_sees_r2 : List Cond := [Cond.initialized RJ9, Cond.code yJ9_floorDiv_7cf53 cJ9_floorDiv_7cf53 3 (some .int)]
def wsX1_sees : List Cond := .code yX1_sees cX1_sees 9 (some .boolean) :: ((wsX1_sees_r1 ++ wsX1_sees_r2) ++ wsX10 ++ wsX70)
def wsX2_init : List Cond := .code yX2_init cX2_init 1 none :: ([.methodLink RX2 1 objectInit, .instanceMethod objectInit, .code objectInit ⟨#[0xb1]⟩ 1 none])
def wsX2_clear : List Cond := .code yX2_clear cX2_clear 1 none :: ([.fieldLink RX2 7 "AerialSurvey$Overlap" "one" "I", .fieldLink RX2 13 "AerialSurvey$Overlap" "other" "I", .fieldLink RX2 16 "AerialSurvey$Overlap" "both" "I"] ++ wsX20)
def wsX2_countCell : List Cond := .code yX2_countCell cX2_countCell 3 none :: ([.fieldLink RX2 7 "AerialSurvey$Overlap" "one" "I", .fieldLink RX2 13 "AerialSurvey$Overlap" "other" "I", .fieldLink RX2 16 "AerialSurvey$Overlap" "both" "I"] ++ wsX20)
def wsX2_percent : List Cond := .code yX2_percent cX2_percent 1 (some .int) :: ([.fieldLink RX2 16 "AerialSurvey$Overlap" "both" "I", .fieldLink RX2 7 "AerialSurvey$Overlap" "one" "I", .fieldLink RX2 13 "AerialSurvey$Overlap" "other" "I", .methodLink RX2 19 Lib.Math.min.name, .static Lib.Math.min.name, .initialized "java/lang/Math", .code Lib.Math.min.name Lib.Math.min.code 2 (some .int), .static yX8_quotient, .initialized RX8, .code yX8_quotient cX8_quotient 2 (some .int)] ++ wsX20)
def wsX5_init : List Cond := .code yX5_init cX5_init 1 none :: ([.methodLink RX5 1 objectInit, .instanceMethod objectInit, .code objectInit ⟨#[0xb1]⟩ 1 none])
def wsX6_init : List Cond := .code yX6_init cX6_init 2 none :: ([.methodLink RX6 3 objectInit, .instanceMethod objectInit, .code objectInit ⟨#[0xb1]⟩ 1 none, .classLink RX6 9 RX5, .fieldLink RX6 11 "AerialSurvey$StripList" "strips" "[LAerialSurvey$Strip;", .instantiable RX5 4, .initialized RX5, .instanceMethod yX5_init, .code yX5_init cX5_init 1 none, .methodLink RX5 1 objectInit] ++ wsX60 ++ wsX50)
def wsX3_init : List Cond := .code yX3_init cX3_init 1 none :: ([.methodLink RX3 1 objectInit, .instanceMethod objectInit, .code objectInit ⟨#[0xb1]⟩ 1 none, .classLink RX3 7 RX6, .instantiable RX6 2, .initialized RX6, .fieldLink RX3 10 "AerialSurvey$Planner" "trial" "LAerialSurvey$StripList;", .methodLink RX3 9 yX6_init, .instanceMethod yX6_init, .code yX6_init cX6_init 2 none, .methodLink RX6 3 objectInit, .classLink RX6 9 RX5, .fieldLink RX6 11 "AerialSurvey$StripList" "strips" "[LAerialSurvey$Strip;", .instantiable RX5 4, .initialized RX5, .instanceMethod yX5_init, .code yX5_init cX5_init 1 none, .methodLink RX5 1 objectInit] ++ wsX60 ++ wsX30 ++ wsX50)
def wsX6_clear : List Cond := .code yX6_clear cX6_clear 1 none :: ([.fieldLink RX6 18 "AerialSurvey$StripList" "count" "I"] ++ wsX60)
def wsX5_put : List Cond := .code yX5_put cX5_put 5 none :: ([.fieldLink RX5 7 "AerialSurvey$Strip" "row" "I", .fieldLink RX5 13 "AerialSurvey$Strip" "first" "I", .fieldLink RX5 16 "AerialSurvey$Strip" "last" "I", .fieldLink RX5 19 "AerialSurvey$Strip" "spacing" "I"] ++ wsX50)
def wsX6_add : List Cond := .code yX6_add cX6_add 5 (some .int) :: ([.fieldLink RX6 18 "AerialSurvey$StripList" "count" "I", .fieldLink RX6 11 "AerialSurvey$StripList" "strips" "[LAerialSurvey$Strip;", .methodLink RX6 22 yX5_put, .instanceMethod yX5_put, .selects RX5 yX5_put yX5_put, .initialized RX5, .code yX5_put cX5_put 5 none, .fieldLink RX5 7 "AerialSurvey$Strip" "row" "I", .fieldLink RX5 13 "AerialSurvey$Strip" "first" "I", .fieldLink RX5 16 "AerialSurvey$Strip" "last" "I", .fieldLink RX5 19 "AerialSurvey$Strip" "spacing" "I"] ++ wsX60 ++ wsX50)
def wsX6_layOut_r1 : List Cond := [Cond.fieldLink RX6 42 "AerialSurvey$Terrain" "rows" "I", Cond.fieldLink RX6 11 "AerialSurvey$StripList" "strips" "[LAerialSurvey$Strip;", Cond.fieldLink RX6 54 "AerialSurvey$Terrain" "columns" "I", Cond.static yX8_quotient, Cond.initialized RX8, Cond.code yX8_quotient cX8_quotient 2 (some .int), Cond.methodLink RX6 51 yX6_clear, Cond.instanceMethod yX6_clear, Cond.selects RX6 yX6_clear yX6_clear, Cond.initialized RX6, Cond.code yX6_clear cX6_clear 1 none, Cond.fieldLink RX6 18 "AerialSurvey$StripList" "count" "I", Cond.methodLink RX6 57 yX6_add, Cond.instanceMethod yX6_add, Cond.selects RX6 yX6_add yX6_add, Cond.code yX6_add cX6_add 5 (some .int), Cond.methodLink RX6 22 yX5_put, Cond.instanceMethod yX5_put, Cond.selects RX5 yX5_put yX5_put, Cond.initialized RX5, Cond.code yX5_put cX5_put 5 none, Cond.fieldLink RX5 7 "AerialSurvey$Strip" "row" "I", Cond.fieldLink RX5 13 "AerialSurvey$Strip" "first" "I", Cond.fieldLink RX5 16 "AerialSurvey$Strip" "last" "I"]
def wsX6_layOut_r2 : List Cond := [Cond.fieldLink RX5 19 "AerialSurvey$Strip" "spacing" "I"]
def wsX6_layOut : List Cond := .code yX6_layOut cX6_layOut 7 (some .boolean) :: ((wsX6_layOut_r1 ++ wsX6_layOut_r2) ++ wsX70 ++ wsX60 ++ wsX50)
def wsX5_photos : List Cond := .code yX5_photos cX5_photos 1 (some .int) :: ([.fieldLink RX5 16 "AerialSurvey$Strip" "last" "I", .fieldLink RX5 13 "AerialSurvey$Strip" "first" "I", .fieldLink RX5 19 "AerialSurvey$Strip" "spacing" "I", .static yX8_quotient, .initialized RX8, .code yX8_quotient cX8_quotient 2 (some .int)] ++ wsX50)
def wsX6_photoTotal : List Cond := .code yX6_photoTotal cX6_photoTotal 3 (some .int) :: ([.fieldLink RX6 18 "AerialSurvey$StripList" "count" "I", .fieldLink RX6 11 "AerialSurvey$StripList" "strips" "[LAerialSurvey$Strip;", .methodLink RX6 61 yX5_photos, .instanceMethod yX5_photos, .selects RX5 yX5_photos yX5_photos, .initialized RX5, .code yX5_photos cX5_photos 1 (some .int), .fieldLink RX5 16 "AerialSurvey$Strip" "last" "I", .fieldLink RX5 13 "AerialSurvey$Strip" "first" "I", .fieldLink RX5 19 "AerialSurvey$Strip" "spacing" "I", .static yX8_quotient, .initialized RX8, .code yX8_quotient cX8_quotient 2 (some .int)] ++ wsX60 ++ wsX50)
def wsX5_columnOf : List Cond := .code yX5_columnOf cX5_columnOf 2 (some .int) :: ([.fieldLink RX5 13 "AerialSurvey$Strip" "first" "I", .fieldLink RX5 19 "AerialSurvey$Strip" "spacing" "I"] ++ wsX50)
def wsX6_views_r1 : List Cond := [Cond.fieldLink RX6 18 "AerialSurvey$StripList" "count" "I", Cond.fieldLink RX6 11 "AerialSurvey$StripList" "strips" "[LAerialSurvey$Strip;", Cond.fieldLink RX6 30 "AerialSurvey$Strip" "row" "I", Cond.methodLink RX6 61 yX5_photos, Cond.instanceMethod yX5_photos, Cond.selects RX5 yX5_photos yX5_photos, Cond.initialized RX5, Cond.code yX5_photos cX5_photos 1 (some .int), Cond.fieldLink RX5 16 "AerialSurvey$Strip" "last" "I", Cond.fieldLink RX5 13 "AerialSurvey$Strip" "first" "I", Cond.fieldLink RX5 19 "AerialSurvey$Strip" "spacing" "I", Cond.static yX8_quotient, Cond.initialized RX8, Cond.code yX8_quotient cX8_quotient 2 (some .int), Cond.methodLink RX6 65 yX5_columnOf, Cond.instanceMethod yX5_columnOf, Cond.selects RX5 yX5_columnOf yX5_columnOf, Cond.code yX5_columnOf cX5_columnOf 2 (some .int), Cond.methodLink RX6 69 yX1_sees, Cond.instanceMethod yX1_sees, Cond.selects RX1 yX1_sees yX1_sees, Cond.initialized RX1, Cond.code yX1_sees cX1_sees 9 (some .boolean), Cond.fieldLink RX1 7 "AerialSurvey$Camera" "altitude" "I"]
def wsX6_views_r2 : List Cond := [Cond.fieldLink RX1 19 "AerialSurvey$Camera" "crab" "I", Cond.methodLink RX1 28 Lib.Math.abs.name, Cond.static Lib.Math.abs.name, Cond.initialized "java/lang/Math", Cond.code Lib.Math.abs.name Lib.Math.abs.code 1 (some .int), Cond.fieldLink RX1 13 "AerialSurvey$Camera" "alongField" "I", Cond.fieldLink RX1 16 "AerialSurvey$Camera" "acrossField" "I", Cond.methodLink RX1 22 yX7_heightAt, Cond.instanceMethod yX7_heightAt, Cond.selects RX7 yX7_heightAt yX7_heightAt, Cond.initialized RX7, Cond.code yX7_heightAt cX7_heightAt 4 (some .int), Cond.fieldLink RX7 18 "AerialSurvey$Terrain" "heights" "[I", Cond.methodLink RX1 34 yX1_isLineFree, Cond.instanceMethod yX1_isLineFree, Cond.selects RX1 yX1_isLineFree yX1_isLineFree, Cond.code yX1_isLineFree cX1_isLineFree 14 (some .boolean), Cond.methodLink RX1 38 Lib.Math.max.name, Cond.static Lib.Math.max.name, Cond.code Lib.Math.max.name Lib.Math.max.code 2 (some .int), Cond.methodLink RX1 41 yJ9_floorDiv_7cf53, Cond.static yJ9_floorDiv_7cf53, Cond.initialized RJ9, Cond.code yJ9_floorDiv_7cf53 cJ9_floorDiv_7cf53 3 (some .int)]
def wsX6_views : List Cond := .code yX6_views cX6_views 11 (some .int) :: ((wsX6_views_r1 ++ wsX6_views_r2) ++ wsX60 ++ wsX50 ++ wsX10 ++ wsX70)
def wsX6_leavesGap_r1 : List Cond := [Cond.fieldLink RX6 42 "AerialSurvey$Terrain" "rows" "I", Cond.fieldLink RX6 54 "AerialSurvey$Terrain" "columns" "I", Cond.methodLink RX6 75 yX6_views, Cond.instanceMethod yX6_views, Cond.selects RX6 yX6_views yX6_views, Cond.initialized RX6, Cond.code yX6_views cX6_views 11 (some .int), Cond.fieldLink RX6 18 "AerialSurvey$StripList" "count" "I", Cond.fieldLink RX6 11 "AerialSurvey$StripList" "strips" "[LAerialSurvey$Strip;", Cond.fieldLink RX6 30 "AerialSurvey$Strip" "row" "I", Cond.methodLink RX6 61 yX5_photos, Cond.instanceMethod yX5_photos, Cond.selects RX5 yX5_photos yX5_photos, Cond.initialized RX5, Cond.code yX5_photos cX5_photos 1 (some .int), Cond.fieldLink RX5 16 "AerialSurvey$Strip" "last" "I", Cond.fieldLink RX5 13 "AerialSurvey$Strip" "first" "I", Cond.fieldLink RX5 19 "AerialSurvey$Strip" "spacing" "I", Cond.static yX8_quotient, Cond.initialized RX8, Cond.code yX8_quotient cX8_quotient 2 (some .int), Cond.methodLink RX6 65 yX5_columnOf, Cond.instanceMethod yX5_columnOf, Cond.selects RX5 yX5_columnOf yX5_columnOf]
def wsX6_leavesGap_r2 : List Cond := [Cond.code yX5_columnOf cX5_columnOf 2 (some .int), Cond.methodLink RX6 69 yX1_sees, Cond.instanceMethod yX1_sees, Cond.selects RX1 yX1_sees yX1_sees, Cond.initialized RX1, Cond.code yX1_sees cX1_sees 9 (some .boolean), Cond.fieldLink RX1 7 "AerialSurvey$Camera" "altitude" "I", Cond.fieldLink RX1 19 "AerialSurvey$Camera" "crab" "I", Cond.methodLink RX1 28 Lib.Math.abs.name, Cond.static Lib.Math.abs.name, Cond.initialized "java/lang/Math", Cond.code Lib.Math.abs.name Lib.Math.abs.code 1 (some .int), Cond.fieldLink RX1 13 "AerialSurvey$Camera" "alongField" "I", Cond.fieldLink RX1 16 "AerialSurvey$Camera" "acrossField" "I", Cond.methodLink RX1 22 yX7_heightAt, Cond.instanceMethod yX7_heightAt, Cond.selects RX7 yX7_heightAt yX7_heightAt, Cond.initialized RX7, Cond.code yX7_heightAt cX7_heightAt 4 (some .int), Cond.fieldLink RX7 18 "AerialSurvey$Terrain" "heights" "[I", Cond.methodLink RX1 34 yX1_isLineFree, Cond.instanceMethod yX1_isLineFree, Cond.selects RX1 yX1_isLineFree yX1_isLineFree, Cond.code yX1_isLineFree cX1_isLineFree 14 (some .boolean)]
def wsX6_leavesGap_r3 : List Cond := [Cond.methodLink RX1 38 Lib.Math.max.name, Cond.static Lib.Math.max.name, Cond.code Lib.Math.max.name Lib.Math.max.code 2 (some .int), Cond.methodLink RX1 41 yJ9_floorDiv_7cf53, Cond.static yJ9_floorDiv_7cf53, Cond.initialized RJ9, Cond.code yJ9_floorDiv_7cf53 cJ9_floorDiv_7cf53 3 (some .int)]
def wsX6_leavesGap : List Cond := .code yX6_leavesGap cX6_leavesGap 6 (some .boolean) :: ((wsX6_leavesGap_r1 ++ (wsX6_leavesGap_r2 ++ wsX6_leavesGap_r3)) ++ wsX70 ++ wsX60 ++ wsX50 ++ wsX10)
def wsX3_search_r1 : List Cond := [Cond.fieldLink RX3 16 "AerialSurvey$Terrain" "rows" "I", Cond.fieldLink RX3 22 "AerialSurvey$Terrain" "columns" "I", Cond.fieldLink RX3 10 "AerialSurvey$Planner" "trial" "LAerialSurvey$StripList;", Cond.fieldLink RX3 33 "AerialSurvey$Planner" "photos" "I", Cond.fieldLink RX3 40 "AerialSurvey$Planner" "rowSpacing" "I", Cond.fieldLink RX3 43 "AerialSurvey$Planner" "photoSpacing" "I", Cond.methodLink RX3 25 yX6_layOut, Cond.instanceMethod yX6_layOut, Cond.selects RX6 yX6_layOut yX6_layOut, Cond.initialized RX6, Cond.code yX6_layOut cX6_layOut 7 (some .boolean), Cond.fieldLink RX6 42 "AerialSurvey$Terrain" "rows" "I", Cond.fieldLink RX6 11 "AerialSurvey$StripList" "strips" "[LAerialSurvey$Strip;", Cond.fieldLink RX6 54 "AerialSurvey$Terrain" "columns" "I", Cond.static yX8_quotient, Cond.initialized RX8, Cond.code yX8_quotient cX8_quotient 2 (some .int), Cond.methodLink RX6 51 yX6_clear, Cond.instanceMethod yX6_clear, Cond.selects RX6 yX6_clear yX6_clear, Cond.code yX6_clear cX6_clear 1 none, Cond.fieldLink RX6 18 "AerialSurvey$StripList" "count" "I", Cond.methodLink RX6 57 yX6_add, Cond.instanceMethod yX6_add]
def wsX3_search_r2 : List Cond := [Cond.selects RX6 yX6_add yX6_add, Cond.code yX6_add cX6_add 5 (some .int), Cond.methodLink RX6 22 yX5_put, Cond.instanceMethod yX5_put, Cond.selects RX5 yX5_put yX5_put, Cond.initialized RX5, Cond.code yX5_put cX5_put 5 none, Cond.fieldLink RX5 7 "AerialSurvey$Strip" "row" "I", Cond.fieldLink RX5 13 "AerialSurvey$Strip" "first" "I", Cond.fieldLink RX5 16 "AerialSurvey$Strip" "last" "I", Cond.fieldLink RX5 19 "AerialSurvey$Strip" "spacing" "I", Cond.methodLink RX3 29 yX6_photoTotal, Cond.instanceMethod yX6_photoTotal, Cond.selects RX6 yX6_photoTotal yX6_photoTotal, Cond.code yX6_photoTotal cX6_photoTotal 3 (some .int), Cond.methodLink RX6 61 yX5_photos, Cond.instanceMethod yX5_photos, Cond.selects RX5 yX5_photos yX5_photos, Cond.code yX5_photos cX5_photos 1 (some .int), Cond.methodLink RX3 36 yX6_leavesGap, Cond.instanceMethod yX6_leavesGap, Cond.selects RX6 yX6_leavesGap yX6_leavesGap, Cond.code yX6_leavesGap cX6_leavesGap 6 (some .boolean), Cond.methodLink RX6 75 yX6_views]
def wsX3_search_r3 : List Cond := [Cond.instanceMethod yX6_views, Cond.selects RX6 yX6_views yX6_views, Cond.code yX6_views cX6_views 11 (some .int), Cond.fieldLink RX6 30 "AerialSurvey$Strip" "row" "I", Cond.methodLink RX6 65 yX5_columnOf, Cond.instanceMethod yX5_columnOf, Cond.selects RX5 yX5_columnOf yX5_columnOf, Cond.code yX5_columnOf cX5_columnOf 2 (some .int), Cond.methodLink RX6 69 yX1_sees, Cond.instanceMethod yX1_sees, Cond.selects RX1 yX1_sees yX1_sees, Cond.initialized RX1, Cond.code yX1_sees cX1_sees 9 (some .boolean), Cond.fieldLink RX1 7 "AerialSurvey$Camera" "altitude" "I", Cond.fieldLink RX1 19 "AerialSurvey$Camera" "crab" "I", Cond.methodLink RX1 28 Lib.Math.abs.name, Cond.static Lib.Math.abs.name, Cond.initialized "java/lang/Math", Cond.code Lib.Math.abs.name Lib.Math.abs.code 1 (some .int), Cond.fieldLink RX1 13 "AerialSurvey$Camera" "alongField" "I", Cond.fieldLink RX1 16 "AerialSurvey$Camera" "acrossField" "I", Cond.methodLink RX1 22 yX7_heightAt, Cond.instanceMethod yX7_heightAt, Cond.selects RX7 yX7_heightAt yX7_heightAt]
def wsX3_search_r4 : List Cond := [Cond.initialized RX7, Cond.code yX7_heightAt cX7_heightAt 4 (some .int), Cond.fieldLink RX7 18 "AerialSurvey$Terrain" "heights" "[I", Cond.methodLink RX1 34 yX1_isLineFree, Cond.instanceMethod yX1_isLineFree, Cond.selects RX1 yX1_isLineFree yX1_isLineFree, Cond.code yX1_isLineFree cX1_isLineFree 14 (some .boolean), Cond.methodLink RX1 38 Lib.Math.max.name, Cond.static Lib.Math.max.name, Cond.code Lib.Math.max.name Lib.Math.max.code 2 (some .int), Cond.methodLink RX1 41 yJ9_floorDiv_7cf53, Cond.static yJ9_floorDiv_7cf53, Cond.initialized RJ9, Cond.code yJ9_floorDiv_7cf53 cJ9_floorDiv_7cf53 3 (some .int)]
def wsX3_search : List Cond := .code yX3_search cX3_search 7 (some .boolean) :: ((wsX3_search_r1 ++ (wsX3_search_r2 ++ (wsX3_search_r3 ++ wsX3_search_r4))) ++ wsX70 ++ wsX30 ++ wsX60 ++ wsX50 ++ wsX10)
def wsX4_init : List Cond := .code yX4_init cX4_init 1 none :: ([.methodLink RX4 3 objectInit, .instanceMethod objectInit, .code objectInit ⟨#[0xb1]⟩ 1 none, .arrayClass .int, .fieldLink RX4 11 "AerialSurvey$Router" "timeLeft" "[I"] ++ wsX40)
def wsX6_find : List Cond := .code yX6_find cX6_find 2 (some (.object "AerialSurvey$Strip")) :: ([.fieldLink RX6 18 "AerialSurvey$StripList" "count" "I", .fieldLink RX6 11 "AerialSurvey$StripList" "strips" "[LAerialSurvey$Strip;"] ++ wsX60)
def wsX4_isIn : List Cond := .code yX4_isIn cX4_isIn 2 (some .boolean) :: ([])
def wsX4_isEastbound : List Cond := .code yX4_isEastbound cX4_isEastbound 1 (some .boolean) :: ([])
def wsX5_exitColumn : List Cond := .code yX5_exitColumn cX5_exitColumn 2 (some .int) :: ([.fieldLink RX5 16 "AerialSurvey$Strip" "last" "I", .fieldLink RX5 13 "AerialSurvey$Strip" "first" "I"] ++ wsX50)
def wsX4_choose_r1 : List Cond := [Cond.fieldLink RX4 32 "AerialSurvey$Router" "chosenStep" "I", Cond.fieldLink RX4 29 "AerialSurvey$Router" "chosenTime" "I", Cond.fieldLink RX4 19 "AerialSurvey$StripList" "count" "I", Cond.fieldLink RX4 11 "AerialSurvey$Router" "timeLeft" "[I", Cond.methodLink RX4 35 yX6_find, Cond.instanceMethod yX6_find, Cond.selects RX6 yX6_find yX6_find, Cond.initialized RX6, Cond.code yX6_find cX6_find 2 (some (.object "AerialSurvey$Strip")), Cond.fieldLink RX6 18 "AerialSurvey$StripList" "count" "I", Cond.fieldLink RX6 11 "AerialSurvey$StripList" "strips" "[LAerialSurvey$Strip;", Cond.methodLink RX4 52 yX4_isIn, Cond.static yX4_isIn, Cond.initialized RX4, Cond.code yX4_isIn cX4_isIn 2 (some .boolean), Cond.methodLink RX4 39 yX4_isEastbound, Cond.static yX4_isEastbound, Cond.code yX4_isEastbound cX4_isEastbound 1 (some .boolean), Cond.methodLink RX4 56 yX0_transferTime, Cond.instanceMethod yX0_transferTime, Cond.selects RX0 yX0_transferTime yX0_transferTime, Cond.initialized RX0, Cond.code yX0_transferTime cX0_transferTime 6 (some .int), Cond.fieldLink RX0 33 "AerialSurvey$Strip" "row" "I"]
def wsX4_choose_r2 : List Cond := [Cond.methodLink RX0 36 Lib.Math.abs.name, Cond.static Lib.Math.abs.name, Cond.initialized "java/lang/Math", Cond.code Lib.Math.abs.name Lib.Math.abs.code 1 (some .int), Cond.fieldLink RX0 7 "AerialSurvey$Aircraft" "airspeed" "I", Cond.fieldLink RX0 16 "AerialSurvey$Aircraft" "turnTime" "I", Cond.methodLink RX0 42 yX5_entryColumn, Cond.instanceMethod yX5_entryColumn, Cond.selects RX5 yX5_entryColumn yX5_entryColumn, Cond.initialized RX5, Cond.code yX5_entryColumn cX5_entryColumn 2 (some .int), Cond.fieldLink RX5 13 "AerialSurvey$Strip" "first" "I", Cond.fieldLink RX5 16 "AerialSurvey$Strip" "last" "I", Cond.static yX8_quotient, Cond.initialized RX8, Cond.code yX8_quotient cX8_quotient 2 (some .int), Cond.methodLink RX4 62 yX0_flightTime, Cond.instanceMethod yX0_flightTime, Cond.selects RX0 yX0_flightTime yX0_flightTime, Cond.code yX0_flightTime cX0_flightTime 4 (some .int), Cond.fieldLink RX0 13 "AerialSurvey$Aircraft" "tailwind" "I", Cond.fieldLink RX0 19 "AerialSurvey$Strip" "last" "I", Cond.fieldLink RX0 24 "AerialSurvey$Strip" "first" "I"]
def wsX4_choose : List Cond := .code yX4_choose cX4_choose 11 none :: ((wsX4_choose_r1 ++ wsX4_choose_r2) ++ wsX40 ++ wsX60 ++ wsX50 ++ wsX00)
def wsX4_fillTimes_r1 : List Cond := [Cond.fieldLink RX4 19 "AerialSurvey$StripList" "count" "I", Cond.fieldLink RX4 49 "AerialSurvey$Strip" "row" "I", Cond.fieldLink RX4 11 "AerialSurvey$Router" "timeLeft" "[I", Cond.fieldLink RX4 29 "AerialSurvey$Router" "chosenTime" "I", Cond.methodLink RX4 35 yX6_find, Cond.instanceMethod yX6_find, Cond.selects RX6 yX6_find yX6_find, Cond.initialized RX6, Cond.code yX6_find cX6_find 2 (some (.object "AerialSurvey$Strip")), Cond.fieldLink RX6 18 "AerialSurvey$StripList" "count" "I", Cond.fieldLink RX6 11 "AerialSurvey$StripList" "strips" "[LAerialSurvey$Strip;", Cond.methodLink RX4 52 yX4_isIn, Cond.static yX4_isIn, Cond.initialized RX4, Cond.code yX4_isIn cX4_isIn 2 (some .boolean), Cond.methodLink RX4 39 yX4_isEastbound, Cond.static yX4_isEastbound, Cond.code yX4_isEastbound cX4_isEastbound 1 (some .boolean), Cond.methodLink RX4 43 yX5_exitColumn, Cond.instanceMethod yX5_exitColumn, Cond.selects RX5 yX5_exitColumn yX5_exitColumn, Cond.initialized RX5, Cond.code yX5_exitColumn cX5_exitColumn 2 (some .int), Cond.fieldLink RX5 16 "AerialSurvey$Strip" "last" "I"]
def wsX4_fillTimes_r2 : List Cond := [Cond.fieldLink RX5 13 "AerialSurvey$Strip" "first" "I", Cond.methodLink RX4 25 yX4_choose, Cond.instanceMethod yX4_choose, Cond.selects RX4 yX4_choose yX4_choose, Cond.code yX4_choose cX4_choose 11 none, Cond.fieldLink RX4 32 "AerialSurvey$Router" "chosenStep" "I", Cond.methodLink RX4 56 yX0_transferTime, Cond.instanceMethod yX0_transferTime, Cond.selects RX0 yX0_transferTime yX0_transferTime, Cond.initialized RX0, Cond.code yX0_transferTime cX0_transferTime 6 (some .int), Cond.fieldLink RX0 33 "AerialSurvey$Strip" "row" "I", Cond.methodLink RX0 36 Lib.Math.abs.name, Cond.static Lib.Math.abs.name, Cond.initialized "java/lang/Math", Cond.code Lib.Math.abs.name Lib.Math.abs.code 1 (some .int), Cond.fieldLink RX0 7 "AerialSurvey$Aircraft" "airspeed" "I", Cond.fieldLink RX0 16 "AerialSurvey$Aircraft" "turnTime" "I", Cond.methodLink RX0 42 yX5_entryColumn, Cond.instanceMethod yX5_entryColumn, Cond.selects RX5 yX5_entryColumn yX5_entryColumn, Cond.code yX5_entryColumn cX5_entryColumn 2 (some .int), Cond.static yX8_quotient, Cond.initialized RX8]
def wsX4_fillTimes_r3 : List Cond := [Cond.code yX8_quotient cX8_quotient 2 (some .int), Cond.methodLink RX4 62 yX0_flightTime, Cond.instanceMethod yX0_flightTime, Cond.selects RX0 yX0_flightTime yX0_flightTime, Cond.code yX0_flightTime cX0_flightTime 4 (some .int), Cond.fieldLink RX0 13 "AerialSurvey$Aircraft" "tailwind" "I", Cond.fieldLink RX0 19 "AerialSurvey$Strip" "last" "I", Cond.fieldLink RX0 24 "AerialSurvey$Strip" "first" "I"]
def wsX4_fillTimes : List Cond := .code yX4_fillTimes cX4_fillTimes 7 none :: ((wsX4_fillTimes_r1 ++ (wsX4_fillTimes_r2 ++ wsX4_fillTimes_r3)) ++ wsX60 ++ wsX50 ++ wsX40 ++ wsX00)
def wsX4_fastestTime_r1 : List Cond := [Cond.fieldLink RX4 19 "AerialSurvey$StripList" "count" "I", Cond.fieldLink RX4 29 "AerialSurvey$Router" "chosenTime" "I", Cond.methodLink RX4 15 yX4_fillTimes, Cond.instanceMethod yX4_fillTimes, Cond.selects RX4 yX4_fillTimes yX4_fillTimes, Cond.initialized RX4, Cond.code yX4_fillTimes cX4_fillTimes 7 none, Cond.fieldLink RX4 49 "AerialSurvey$Strip" "row" "I", Cond.fieldLink RX4 11 "AerialSurvey$Router" "timeLeft" "[I", Cond.methodLink RX4 35 yX6_find, Cond.instanceMethod yX6_find, Cond.selects RX6 yX6_find yX6_find, Cond.initialized RX6, Cond.code yX6_find cX6_find 2 (some (.object "AerialSurvey$Strip")), Cond.fieldLink RX6 18 "AerialSurvey$StripList" "count" "I", Cond.fieldLink RX6 11 "AerialSurvey$StripList" "strips" "[LAerialSurvey$Strip;", Cond.methodLink RX4 52 yX4_isIn, Cond.static yX4_isIn, Cond.code yX4_isIn cX4_isIn 2 (some .boolean), Cond.methodLink RX4 39 yX4_isEastbound, Cond.static yX4_isEastbound, Cond.code yX4_isEastbound cX4_isEastbound 1 (some .boolean), Cond.methodLink RX4 43 yX5_exitColumn, Cond.instanceMethod yX5_exitColumn]
def wsX4_fastestTime_r2 : List Cond := [Cond.selects RX5 yX5_exitColumn yX5_exitColumn, Cond.initialized RX5, Cond.code yX5_exitColumn cX5_exitColumn 2 (some .int), Cond.fieldLink RX5 16 "AerialSurvey$Strip" "last" "I", Cond.fieldLink RX5 13 "AerialSurvey$Strip" "first" "I", Cond.methodLink RX4 25 yX4_choose, Cond.instanceMethod yX4_choose, Cond.selects RX4 yX4_choose yX4_choose, Cond.code yX4_choose cX4_choose 11 none, Cond.fieldLink RX4 32 "AerialSurvey$Router" "chosenStep" "I", Cond.methodLink RX4 56 yX0_transferTime, Cond.instanceMethod yX0_transferTime, Cond.selects RX0 yX0_transferTime yX0_transferTime, Cond.initialized RX0, Cond.code yX0_transferTime cX0_transferTime 6 (some .int), Cond.fieldLink RX0 33 "AerialSurvey$Strip" "row" "I", Cond.methodLink RX0 36 Lib.Math.abs.name, Cond.static Lib.Math.abs.name, Cond.initialized "java/lang/Math", Cond.code Lib.Math.abs.name Lib.Math.abs.code 1 (some .int), Cond.fieldLink RX0 7 "AerialSurvey$Aircraft" "airspeed" "I", Cond.fieldLink RX0 16 "AerialSurvey$Aircraft" "turnTime" "I", Cond.methodLink RX0 42 yX5_entryColumn, Cond.instanceMethod yX5_entryColumn]
def wsX4_fastestTime_r3 : List Cond := [Cond.selects RX5 yX5_entryColumn yX5_entryColumn, Cond.code yX5_entryColumn cX5_entryColumn 2 (some .int), Cond.static yX8_quotient, Cond.initialized RX8, Cond.code yX8_quotient cX8_quotient 2 (some .int), Cond.methodLink RX4 62 yX0_flightTime, Cond.instanceMethod yX0_flightTime, Cond.selects RX0 yX0_flightTime yX0_flightTime, Cond.code yX0_flightTime cX0_flightTime 4 (some .int), Cond.fieldLink RX0 13 "AerialSurvey$Aircraft" "tailwind" "I", Cond.fieldLink RX0 19 "AerialSurvey$Strip" "last" "I", Cond.fieldLink RX0 24 "AerialSurvey$Strip" "first" "I"]
def wsX4_fastestTime : List Cond := .code yX4_fastestTime cX4_fastestTime 5 (some .int) :: ((wsX4_fastestTime_r1 ++ (wsX4_fastestTime_r2 ++ wsX4_fastestTime_r3)) ++ wsX60 ++ wsX40 ++ wsX50 ++ wsX00)
def wsX4_fastestStep_r1 : List Cond := [Cond.fieldLink RX4 19 "AerialSurvey$StripList" "count" "I", Cond.fieldLink RX4 32 "AerialSurvey$Router" "chosenStep" "I", Cond.fieldLink RX4 49 "AerialSurvey$Strip" "row" "I", Cond.methodLink RX4 15 yX4_fillTimes, Cond.instanceMethod yX4_fillTimes, Cond.selects RX4 yX4_fillTimes yX4_fillTimes, Cond.initialized RX4, Cond.code yX4_fillTimes cX4_fillTimes 7 none, Cond.fieldLink RX4 11 "AerialSurvey$Router" "timeLeft" "[I", Cond.fieldLink RX4 29 "AerialSurvey$Router" "chosenTime" "I", Cond.methodLink RX4 35 yX6_find, Cond.instanceMethod yX6_find, Cond.selects RX6 yX6_find yX6_find, Cond.initialized RX6, Cond.code yX6_find cX6_find 2 (some (.object "AerialSurvey$Strip")), Cond.fieldLink RX6 18 "AerialSurvey$StripList" "count" "I", Cond.fieldLink RX6 11 "AerialSurvey$StripList" "strips" "[LAerialSurvey$Strip;", Cond.methodLink RX4 52 yX4_isIn, Cond.static yX4_isIn, Cond.code yX4_isIn cX4_isIn 2 (some .boolean), Cond.methodLink RX4 39 yX4_isEastbound, Cond.static yX4_isEastbound, Cond.code yX4_isEastbound cX4_isEastbound 1 (some .boolean), Cond.methodLink RX4 43 yX5_exitColumn]
def wsX4_fastestStep_r2 : List Cond := [Cond.instanceMethod yX5_exitColumn, Cond.selects RX5 yX5_exitColumn yX5_exitColumn, Cond.initialized RX5, Cond.code yX5_exitColumn cX5_exitColumn 2 (some .int), Cond.fieldLink RX5 16 "AerialSurvey$Strip" "last" "I", Cond.fieldLink RX5 13 "AerialSurvey$Strip" "first" "I", Cond.methodLink RX4 25 yX4_choose, Cond.instanceMethod yX4_choose, Cond.selects RX4 yX4_choose yX4_choose, Cond.code yX4_choose cX4_choose 11 none, Cond.methodLink RX4 56 yX0_transferTime, Cond.instanceMethod yX0_transferTime, Cond.selects RX0 yX0_transferTime yX0_transferTime, Cond.initialized RX0, Cond.code yX0_transferTime cX0_transferTime 6 (some .int), Cond.fieldLink RX0 33 "AerialSurvey$Strip" "row" "I", Cond.methodLink RX0 36 Lib.Math.abs.name, Cond.static Lib.Math.abs.name, Cond.initialized "java/lang/Math", Cond.code Lib.Math.abs.name Lib.Math.abs.code 1 (some .int), Cond.fieldLink RX0 7 "AerialSurvey$Aircraft" "airspeed" "I", Cond.fieldLink RX0 16 "AerialSurvey$Aircraft" "turnTime" "I", Cond.methodLink RX0 42 yX5_entryColumn, Cond.instanceMethod yX5_entryColumn]
def wsX4_fastestStep_r3 : List Cond := [Cond.selects RX5 yX5_entryColumn yX5_entryColumn, Cond.code yX5_entryColumn cX5_entryColumn 2 (some .int), Cond.static yX8_quotient, Cond.initialized RX8, Cond.code yX8_quotient cX8_quotient 2 (some .int), Cond.methodLink RX4 62 yX0_flightTime, Cond.instanceMethod yX0_flightTime, Cond.selects RX0 yX0_flightTime yX0_flightTime, Cond.code yX0_flightTime cX0_flightTime 4 (some .int), Cond.fieldLink RX0 13 "AerialSurvey$Aircraft" "tailwind" "I", Cond.fieldLink RX0 19 "AerialSurvey$Strip" "last" "I", Cond.fieldLink RX0 24 "AerialSurvey$Strip" "first" "I"]
def wsX4_fastestStep : List Cond := .code yX4_fastestStep cX4_fastestStep 10 (some .int) :: ((wsX4_fastestStep_r1 ++ (wsX4_fastestStep_r2 ++ wsX4_fastestStep_r3)) ++ wsX60 ++ wsX40 ++ wsX50 ++ wsX00)
def wsX5_hasPhoto : List Cond := .code yX5_hasPhoto cX5_hasPhoto 2 (some .boolean) :: ([.methodLink RX5 28 yX5_photos, .instanceMethod yX5_photos, .selects RX5 yX5_photos yX5_photos, .initialized RX5, .code yX5_photos cX5_photos 1 (some .int), .fieldLink RX5 16 "AerialSurvey$Strip" "last" "I", .fieldLink RX5 13 "AerialSurvey$Strip" "first" "I", .fieldLink RX5 19 "AerialSurvey$Strip" "spacing" "I", .static yX8_quotient, .initialized RX8, .code yX8_quotient cX8_quotient 2 (some .int)] ++ wsX50)
def wsX5_sees_r1 : List Cond := [Cond.fieldLink RX5 7 "AerialSurvey$Strip" "row" "I", Cond.methodLink RX5 28 yX5_photos, Cond.instanceMethod yX5_photos, Cond.selects RX5 yX5_photos yX5_photos, Cond.initialized RX5, Cond.code yX5_photos cX5_photos 1 (some .int), Cond.fieldLink RX5 16 "AerialSurvey$Strip" "last" "I", Cond.fieldLink RX5 13 "AerialSurvey$Strip" "first" "I", Cond.fieldLink RX5 19 "AerialSurvey$Strip" "spacing" "I", Cond.static yX8_quotient, Cond.initialized RX8, Cond.code yX8_quotient cX8_quotient 2 (some .int), Cond.methodLink RX5 32 yX5_columnOf, Cond.instanceMethod yX5_columnOf, Cond.selects RX5 yX5_columnOf yX5_columnOf, Cond.code yX5_columnOf cX5_columnOf 2 (some .int), Cond.methodLink RX5 36 yX1_sees, Cond.instanceMethod yX1_sees, Cond.selects RX1 yX1_sees yX1_sees, Cond.initialized RX1, Cond.code yX1_sees cX1_sees 9 (some .boolean), Cond.fieldLink RX1 7 "AerialSurvey$Camera" "altitude" "I", Cond.fieldLink RX1 19 "AerialSurvey$Camera" "crab" "I", Cond.methodLink RX1 28 Lib.Math.abs.name]
def wsX5_sees_r2 : List Cond := [Cond.static Lib.Math.abs.name, Cond.initialized "java/lang/Math", Cond.code Lib.Math.abs.name Lib.Math.abs.code 1 (some .int), Cond.fieldLink RX1 13 "AerialSurvey$Camera" "alongField" "I", Cond.fieldLink RX1 16 "AerialSurvey$Camera" "acrossField" "I", Cond.methodLink RX1 22 yX7_heightAt, Cond.instanceMethod yX7_heightAt, Cond.selects RX7 yX7_heightAt yX7_heightAt, Cond.initialized RX7, Cond.code yX7_heightAt cX7_heightAt 4 (some .int), Cond.fieldLink RX7 18 "AerialSurvey$Terrain" "heights" "[I", Cond.methodLink RX1 34 yX1_isLineFree, Cond.instanceMethod yX1_isLineFree, Cond.selects RX1 yX1_isLineFree yX1_isLineFree, Cond.code yX1_isLineFree cX1_isLineFree 14 (some .boolean), Cond.methodLink RX1 38 Lib.Math.max.name, Cond.static Lib.Math.max.name, Cond.code Lib.Math.max.name Lib.Math.max.code 2 (some .int), Cond.methodLink RX1 41 yJ9_floorDiv_7cf53, Cond.static yJ9_floorDiv_7cf53, Cond.initialized RJ9, Cond.code yJ9_floorDiv_7cf53 cJ9_floorDiv_7cf53 3 (some .int)]
def wsX5_sees : List Cond := .code yX5_sees cX5_sees 7 (some .boolean) :: ((wsX5_sees_r1 ++ wsX5_sees_r2) ++ wsX50 ++ wsX10 ++ wsX70)
def wsX6_remove : List Cond := .code yX6_remove cX6_remove 4 none :: ([.fieldLink RX6 18 "AerialSurvey$StripList" "count" "I", .fieldLink RX6 11 "AerialSurvey$StripList" "strips" "[LAerialSurvey$Strip;", .fieldLink RX6 30 "AerialSurvey$Strip" "row" "I", .fieldLink RX6 33 "AerialSurvey$Strip" "first" "I", .fieldLink RX6 36 "AerialSurvey$Strip" "last" "I", .fieldLink RX6 39 "AerialSurvey$Strip" "spacing" "I", .methodLink RX6 26 yX6_find, .instanceMethod yX6_find, .selects RX6 yX6_find yX6_find, .initialized RX6, .code yX6_find cX6_find 2 (some (.object "AerialSurvey$Strip")), .methodLink RX6 22 yX5_put, .instanceMethod yX5_put, .selects RX5 yX5_put yX5_put, .initialized RX5, .code yX5_put cX5_put 5 none, .fieldLink RX5 7 "AerialSurvey$Strip" "row" "I", .fieldLink RX5 13 "AerialSurvey$Strip" "first" "I", .fieldLink RX5 16 "AerialSurvey$Strip" "last" "I", .fieldLink RX5 19 "AerialSurvey$Strip" "spacing" "I"] ++ wsX60 ++ wsX50)
def wsX7_init : List Cond := .code yX7_init cX7_init 1 none :: ([.methodLink RX7 3 objectInit, .instanceMethod objectInit, .code objectInit ⟨#[0xb1]⟩ 1 none, .fieldLink RX7 9 "AerialSurvey$Terrain" "rows" "I", .fieldLink RX7 15 "AerialSurvey$Terrain" "columns" "I", .arrayClass .int, .fieldLink RX7 18 "AerialSurvey$Terrain" "heights" "[I"] ++ wsX70)
def wsX7_contains : List Cond := .code yX7_contains cX7_contains 3 (some .boolean) :: ([.fieldLink RX7 9 "AerialSurvey$Terrain" "rows" "I", .fieldLink RX7 15 "AerialSurvey$Terrain" "columns" "I"] ++ wsX70)
def wsX7_flatten : List Cond := .code yX7_flatten cX7_flatten 4 none :: ([.fieldLink RX7 9 "AerialSurvey$Terrain" "rows" "I", .fieldLink RX7 15 "AerialSurvey$Terrain" "columns" "I", .fieldLink RX7 18 "AerialSurvey$Terrain" "heights" "[I"] ++ wsX70)
def wsX7_put : List Cond := .code yX7_put cX7_put 5 none :: ([.fieldLink RX7 18 "AerialSurvey$Terrain" "heights" "[I"] ++ wsX70)
def wsX7_raise_r1 : List Cond := [Cond.fieldLink RX7 9 "AerialSurvey$Terrain" "rows" "I", Cond.fieldLink RX7 15 "AerialSurvey$Terrain" "columns" "I", Cond.methodLink RX7 22 Lib.Math.abs.name, Cond.static Lib.Math.abs.name, Cond.initialized "java/lang/Math", Cond.code Lib.Math.abs.name Lib.Math.abs.code 1 (some .int), Cond.methodLink RX7 28 Lib.Math.max.name, Cond.static Lib.Math.max.name, Cond.code Lib.Math.max.name Lib.Math.max.code 2 (some .int), Cond.methodLink RX7 38 Lib.Math.min.name, Cond.static Lib.Math.min.name, Cond.code Lib.Math.min.name Lib.Math.min.code 2 (some .int), Cond.static yX8_quotient, Cond.initialized RX8, Cond.code yX8_quotient cX8_quotient 2 (some .int), Cond.methodLink RX7 35 yX7_heightAt, Cond.instanceMethod yX7_heightAt, Cond.selects RX7 yX7_heightAt yX7_heightAt, Cond.initialized RX7, Cond.code yX7_heightAt cX7_heightAt 4 (some .int), Cond.fieldLink RX7 18 "AerialSurvey$Terrain" "heights" "[I", Cond.methodLink RX7 41 yX7_put, Cond.instanceMethod yX7_put, Cond.selects RX7 yX7_put yX7_put]
def wsX7_raise_r2 : List Cond := [Cond.code yX7_put cX7_put 5 none]
def wsX7_raise : List Cond := .code yX7_raise cX7_raise 12 (some .int) :: ((wsX7_raise_r1 ++ wsX7_raise_r2) ++ wsX70)
def wsX8_init_r1 : List Cond := [Cond.methodLink RX8 1 objectInit, Cond.instanceMethod objectInit, Cond.code objectInit ⟨#[0xb1]⟩ 1 none, Cond.classLink RX8 7 RX7, Cond.instantiable RX7 3, Cond.initialized RX7, Cond.fieldLink RX8 10 "AerialSurvey" "terrain" "LAerialSurvey$Terrain;", Cond.classLink RX8 16 RX1, Cond.instantiable RX1 4, Cond.initialized RX1, Cond.fieldLink RX8 19 "AerialSurvey" "camera" "LAerialSurvey$Camera;", Cond.classLink RX8 23 RX0, Cond.instantiable RX0 3, Cond.initialized RX0, Cond.fieldLink RX8 26 "AerialSurvey" "aircraft" "LAerialSurvey$Aircraft;", Cond.classLink RX8 30 RX6, Cond.instantiable RX6 2, Cond.initialized RX6, Cond.fieldLink RX8 33 "AerialSurvey" "strips" "LAerialSurvey$StripList;", Cond.classLink RX8 37 RX2, Cond.instantiable RX2 3, Cond.initialized RX2, Cond.fieldLink RX8 40 "AerialSurvey" "overlap" "LAerialSurvey$Overlap;", Cond.classLink RX8 44 RX3]
def wsX8_init_r2 : List Cond := [Cond.instantiable RX3 4, Cond.initialized RX3, Cond.fieldLink RX8 47 "AerialSurvey" "planner" "LAerialSurvey$Planner;", Cond.classLink RX8 51 RX4, Cond.instantiable RX4 3, Cond.initialized RX4, Cond.fieldLink RX8 54 "AerialSurvey" "router" "LAerialSurvey$Router;", Cond.methodLink RX8 9 yX7_init, Cond.instanceMethod yX7_init, Cond.code yX7_init cX7_init 1 none, Cond.methodLink RX7 3 objectInit, Cond.fieldLink RX7 9 "AerialSurvey$Terrain" "rows" "I", Cond.fieldLink RX7 15 "AerialSurvey$Terrain" "columns" "I", Cond.arrayClass .int, Cond.fieldLink RX7 18 "AerialSurvey$Terrain" "heights" "[I", Cond.methodLink RX8 18 yX1_init, Cond.instanceMethod yX1_init, Cond.code yX1_init cX1_init 1 none, Cond.methodLink RX1 1 objectInit, Cond.fieldLink RX1 7 "AerialSurvey$Camera" "altitude" "I", Cond.fieldLink RX1 13 "AerialSurvey$Camera" "alongField" "I", Cond.fieldLink RX1 16 "AerialSurvey$Camera" "acrossField" "I", Cond.fieldLink RX1 19 "AerialSurvey$Camera" "crab" "I", Cond.methodLink RX8 25 yX0_init]
def wsX8_init_r3 : List Cond := [Cond.instanceMethod yX0_init, Cond.code yX0_init cX0_init 1 none, Cond.methodLink RX0 1 objectInit, Cond.fieldLink RX0 7 "AerialSurvey$Aircraft" "airspeed" "I", Cond.fieldLink RX0 13 "AerialSurvey$Aircraft" "tailwind" "I", Cond.fieldLink RX0 16 "AerialSurvey$Aircraft" "turnTime" "I", Cond.methodLink RX8 32 yX6_init, Cond.instanceMethod yX6_init, Cond.code yX6_init cX6_init 2 none, Cond.methodLink RX6 3 objectInit, Cond.classLink RX6 9 RX5, Cond.fieldLink RX6 11 "AerialSurvey$StripList" "strips" "[LAerialSurvey$Strip;", Cond.instantiable RX5 4, Cond.initialized RX5, Cond.instanceMethod yX5_init, Cond.code yX5_init cX5_init 1 none, Cond.methodLink RX5 1 objectInit, Cond.instanceMethod yX2_init, Cond.code yX2_init cX2_init 1 none, Cond.methodLink RX2 1 objectInit, Cond.methodLink RX8 46 yX3_init, Cond.instanceMethod yX3_init, Cond.code yX3_init cX3_init 1 none, Cond.methodLink RX3 1 objectInit]
def wsX8_init_r4 : List Cond := [Cond.classLink RX3 7 RX6, Cond.fieldLink RX3 10 "AerialSurvey$Planner" "trial" "LAerialSurvey$StripList;", Cond.methodLink RX3 9 yX6_init, Cond.methodLink RX8 53 yX4_init, Cond.instanceMethod yX4_init, Cond.code yX4_init cX4_init 1 none, Cond.methodLink RX4 3 objectInit, Cond.fieldLink RX4 11 "AerialSurvey$Router" "timeLeft" "[I"]
def wsX8_init : List Cond := .code yX8_init cX8_init 1 none :: ((wsX8_init_r1 ++ (wsX8_init_r2 ++ (wsX8_init_r3 ++ wsX8_init_r4))) ++ wsX70 ++ wsX80 ++ wsX10 ++ wsX00 ++ wsX60 ++ wsX20 ++ wsX30 ++ wsX40 ++ wsX50)
def wsX8_isWithin : List Cond := .code yX8_isWithin cX8_isWithin 3 (some .boolean) :: ([])
def wsX8_resize : List Cond := .code yX8_resize cX8_resize 3 (some .int) :: ([.fieldLink RX8 10 "AerialSurvey" "terrain" "LAerialSurvey$Terrain;", .fieldLink RX8 33 "AerialSurvey" "strips" "LAerialSurvey$StripList;", .methodLink RX8 58 yX8_isWithin, .static yX8_isWithin, .initialized RX8, .code yX8_isWithin cX8_isWithin 3 (some .boolean), .methodLink RX8 62 yX7_flatten, .instanceMethod yX7_flatten, .selects RX7 yX7_flatten yX7_flatten, .initialized RX7, .code yX7_flatten cX7_flatten 4 none, .fieldLink RX7 9 "AerialSurvey$Terrain" "rows" "I", .fieldLink RX7 15 "AerialSurvey$Terrain" "columns" "I", .fieldLink RX7 18 "AerialSurvey$Terrain" "heights" "[I", .methodLink RX8 66 yX6_clear, .instanceMethod yX6_clear, .selects RX6 yX6_clear yX6_clear, .initialized RX6, .code yX6_clear cX6_clear 1 none, .fieldLink RX6 18 "AerialSurvey$StripList" "count" "I"] ++ wsX80 ++ wsX70 ++ wsX60)
def wsX8_setHeight : List Cond := .code yX8_setHeight cX8_setHeight 5 (some .int) :: ([.fieldLink RX8 10 "AerialSurvey" "terrain" "LAerialSurvey$Terrain;", .methodLink RX8 69 yX7_contains, .instanceMethod yX7_contains, .selects RX7 yX7_contains yX7_contains, .initialized RX7, .code yX7_contains cX7_contains 3 (some .boolean), .fieldLink RX7 9 "AerialSurvey$Terrain" "rows" "I", .fieldLink RX7 15 "AerialSurvey$Terrain" "columns" "I", .methodLink RX8 58 yX8_isWithin, .static yX8_isWithin, .initialized RX8, .code yX8_isWithin cX8_isWithin 3 (some .boolean), .methodLink RX8 73 yX7_heightAt, .instanceMethod yX7_heightAt, .selects RX7 yX7_heightAt yX7_heightAt, .code yX7_heightAt cX7_heightAt 4 (some .int), .fieldLink RX7 18 "AerialSurvey$Terrain" "heights" "[I", .methodLink RX8 77 yX7_put, .instanceMethod yX7_put, .selects RX7 yX7_put yX7_put, .code yX7_put cX7_put 5 none] ++ wsX80 ++ wsX70)
def wsX8_raiseHill_r1 : List Cond := [Cond.fieldLink RX8 10 "AerialSurvey" "terrain" "LAerialSurvey$Terrain;", Cond.methodLink RX8 69 yX7_contains, Cond.instanceMethod yX7_contains, Cond.selects RX7 yX7_contains yX7_contains, Cond.initialized RX7, Cond.code yX7_contains cX7_contains 3 (some .boolean), Cond.fieldLink RX7 9 "AerialSurvey$Terrain" "rows" "I", Cond.fieldLink RX7 15 "AerialSurvey$Terrain" "columns" "I", Cond.methodLink RX8 58 yX8_isWithin, Cond.static yX8_isWithin, Cond.initialized RX8, Cond.code yX8_isWithin cX8_isWithin 3 (some .boolean), Cond.methodLink RX8 81 yX7_raise, Cond.instanceMethod yX7_raise, Cond.selects RX7 yX7_raise yX7_raise, Cond.code yX7_raise cX7_raise 12 (some .int), Cond.methodLink RX7 22 Lib.Math.abs.name, Cond.static Lib.Math.abs.name, Cond.initialized "java/lang/Math", Cond.code Lib.Math.abs.name Lib.Math.abs.code 1 (some .int), Cond.methodLink RX7 28 Lib.Math.max.name, Cond.static Lib.Math.max.name, Cond.code Lib.Math.max.name Lib.Math.max.code 2 (some .int), Cond.methodLink RX7 38 Lib.Math.min.name]
def wsX8_raiseHill_r2 : List Cond := [Cond.static Lib.Math.min.name, Cond.code Lib.Math.min.name Lib.Math.min.code 2 (some .int), Cond.static yX8_quotient, Cond.code yX8_quotient cX8_quotient 2 (some .int), Cond.methodLink RX7 35 yX7_heightAt, Cond.instanceMethod yX7_heightAt, Cond.selects RX7 yX7_heightAt yX7_heightAt, Cond.code yX7_heightAt cX7_heightAt 4 (some .int), Cond.fieldLink RX7 18 "AerialSurvey$Terrain" "heights" "[I", Cond.methodLink RX7 41 yX7_put, Cond.instanceMethod yX7_put, Cond.selects RX7 yX7_put yX7_put, Cond.code yX7_put cX7_put 5 none]
def wsX8_raiseHill : List Cond := .code yX8_raiseHill cX8_raiseHill 5 (some .int) :: ((wsX8_raiseHill_r1 ++ wsX8_raiseHill_r2) ++ wsX80 ++ wsX70)
def wsX8_height : List Cond := .code yX8_height cX8_height 3 (some .int) :: ([.fieldLink RX8 10 "AerialSurvey" "terrain" "LAerialSurvey$Terrain;", .methodLink RX8 69 yX7_contains, .instanceMethod yX7_contains, .selects RX7 yX7_contains yX7_contains, .initialized RX7, .code yX7_contains cX7_contains 3 (some .boolean), .fieldLink RX7 9 "AerialSurvey$Terrain" "rows" "I", .fieldLink RX7 15 "AerialSurvey$Terrain" "columns" "I", .methodLink RX8 73 yX7_heightAt, .instanceMethod yX7_heightAt, .selects RX7 yX7_heightAt yX7_heightAt, .code yX7_heightAt cX7_heightAt 4 (some .int), .fieldLink RX7 18 "AerialSurvey$Terrain" "heights" "[I"] ++ wsX80 ++ wsX70)
def wsX8_setAltitude : List Cond := .code yX8_setAltitude cX8_setAltitude 3 (some .int) :: ([.fieldLink RX8 19 "AerialSurvey" "camera" "LAerialSurvey$Camera;", .fieldLink RX8 85 "AerialSurvey$Camera" "altitude" "I", .methodLink RX8 58 yX8_isWithin, .static yX8_isWithin, .initialized RX8, .code yX8_isWithin cX8_isWithin 3 (some .boolean)] ++ wsX80 ++ wsX10)
def wsX8_setFields : List Cond := .code yX8_setFields cX8_setFields 4 (some .int) :: ([.fieldLink RX8 19 "AerialSurvey" "camera" "LAerialSurvey$Camera;", .fieldLink RX8 89 "AerialSurvey$Camera" "alongField" "I", .fieldLink RX8 92 "AerialSurvey$Camera" "acrossField" "I", .methodLink RX8 58 yX8_isWithin, .static yX8_isWithin, .initialized RX8, .code yX8_isWithin cX8_isWithin 3 (some .boolean)] ++ wsX80 ++ wsX10)
def wsX8_setCrab : List Cond := .code yX8_setCrab cX8_setCrab 3 (some .int) :: ([.fieldLink RX8 19 "AerialSurvey" "camera" "LAerialSurvey$Camera;", .fieldLink RX8 95 "AerialSurvey$Camera" "crab" "I", .methodLink RX8 58 yX8_isWithin, .static yX8_isWithin, .initialized RX8, .code yX8_isWithin cX8_isWithin 3 (some .boolean)] ++ wsX80 ++ wsX10)
def wsX8_setSpeed : List Cond := .code yX8_setSpeed cX8_setSpeed 5 (some .int) :: ([.fieldLink RX8 26 "AerialSurvey" "aircraft" "LAerialSurvey$Aircraft;", .fieldLink RX8 98 "AerialSurvey$Aircraft" "airspeed" "I", .fieldLink RX8 101 "AerialSurvey$Aircraft" "tailwind" "I", .fieldLink RX8 104 "AerialSurvey$Aircraft" "turnTime" "I", .methodLink RX8 58 yX8_isWithin, .static yX8_isWithin, .initialized RX8, .code yX8_isWithin cX8_isWithin 3 (some .boolean)] ++ wsX80 ++ wsX00)
def wsX8_addStrip_r1 : List Cond := [Cond.fieldLink RX8 10 "AerialSurvey" "terrain" "LAerialSurvey$Terrain;", Cond.fieldLink RX8 33 "AerialSurvey" "strips" "LAerialSurvey$StripList;", Cond.methodLink RX8 69 yX7_contains, Cond.instanceMethod yX7_contains, Cond.selects RX7 yX7_contains yX7_contains, Cond.initialized RX7, Cond.code yX7_contains cX7_contains 3 (some .boolean), Cond.fieldLink RX7 9 "AerialSurvey$Terrain" "rows" "I", Cond.fieldLink RX7 15 "AerialSurvey$Terrain" "columns" "I", Cond.methodLink RX8 58 yX8_isWithin, Cond.static yX8_isWithin, Cond.initialized RX8, Cond.code yX8_isWithin cX8_isWithin 3 (some .boolean), Cond.methodLink RX8 107 yX6_add, Cond.instanceMethod yX6_add, Cond.selects RX6 yX6_add yX6_add, Cond.initialized RX6, Cond.code yX6_add cX6_add 5 (some .int), Cond.fieldLink RX6 18 "AerialSurvey$StripList" "count" "I", Cond.fieldLink RX6 11 "AerialSurvey$StripList" "strips" "[LAerialSurvey$Strip;", Cond.methodLink RX6 22 yX5_put, Cond.instanceMethod yX5_put, Cond.selects RX5 yX5_put yX5_put, Cond.initialized RX5]
def wsX8_addStrip_r2 : List Cond := [Cond.code yX5_put cX5_put 5 none, Cond.fieldLink RX5 7 "AerialSurvey$Strip" "row" "I", Cond.fieldLink RX5 13 "AerialSurvey$Strip" "first" "I", Cond.fieldLink RX5 16 "AerialSurvey$Strip" "last" "I", Cond.fieldLink RX5 19 "AerialSurvey$Strip" "spacing" "I"]
def wsX8_addStrip : List Cond := .code yX8_addStrip cX8_addStrip 5 (some .int) :: ((wsX8_addStrip_r1 ++ wsX8_addStrip_r2) ++ wsX80 ++ wsX70 ++ wsX60 ++ wsX50)
def wsX8_removeStrip_r1 : List Cond := [Cond.fieldLink RX8 33 "AerialSurvey" "strips" "LAerialSurvey$StripList;", Cond.fieldLink RX8 118 "AerialSurvey$StripList" "count" "I", Cond.methodLink RX8 110 yX6_find, Cond.instanceMethod yX6_find, Cond.selects RX6 yX6_find yX6_find, Cond.initialized RX6, Cond.code yX6_find cX6_find 2 (some (.object "AerialSurvey$Strip")), Cond.fieldLink RX6 18 "AerialSurvey$StripList" "count" "I", Cond.fieldLink RX6 11 "AerialSurvey$StripList" "strips" "[LAerialSurvey$Strip;", Cond.methodLink RX8 114 yX6_remove, Cond.instanceMethod yX6_remove, Cond.selects RX6 yX6_remove yX6_remove, Cond.code yX6_remove cX6_remove 4 none, Cond.fieldLink RX6 30 "AerialSurvey$Strip" "row" "I", Cond.fieldLink RX6 33 "AerialSurvey$Strip" "first" "I", Cond.fieldLink RX6 36 "AerialSurvey$Strip" "last" "I", Cond.fieldLink RX6 39 "AerialSurvey$Strip" "spacing" "I", Cond.methodLink RX6 26 yX6_find, Cond.methodLink RX6 22 yX5_put, Cond.instanceMethod yX5_put, Cond.selects RX5 yX5_put yX5_put, Cond.initialized RX5, Cond.code yX5_put cX5_put 5 none, Cond.fieldLink RX5 7 "AerialSurvey$Strip" "row" "I"]
def wsX8_removeStrip_r2 : List Cond := [Cond.fieldLink RX5 13 "AerialSurvey$Strip" "first" "I", Cond.fieldLink RX5 16 "AerialSurvey$Strip" "last" "I", Cond.fieldLink RX5 19 "AerialSurvey$Strip" "spacing" "I"]
def wsX8_removeStrip : List Cond := .code yX8_removeStrip cX8_removeStrip 2 (some .int) :: ((wsX8_removeStrip_r1 ++ wsX8_removeStrip_r2) ++ wsX80 ++ wsX60 ++ wsX50)
def wsX8_stripCount : List Cond := .code yX8_stripCount cX8_stripCount 1 (some .int) :: ([.fieldLink RX8 33 "AerialSurvey" "strips" "LAerialSurvey$StripList;", .fieldLink RX8 118 "AerialSurvey$StripList" "count" "I"] ++ wsX80 ++ wsX60)
def wsX8_photoCount : List Cond := .code yX8_photoCount cX8_photoCount 3 (some .int) :: ([.fieldLink RX8 33 "AerialSurvey" "strips" "LAerialSurvey$StripList;", .methodLink RX8 110 yX6_find, .instanceMethod yX6_find, .selects RX6 yX6_find yX6_find, .initialized RX6, .code yX6_find cX6_find 2 (some (.object "AerialSurvey$Strip")), .fieldLink RX6 18 "AerialSurvey$StripList" "count" "I", .fieldLink RX6 11 "AerialSurvey$StripList" "strips" "[LAerialSurvey$Strip;", .methodLink RX8 121 yX5_photos, .instanceMethod yX5_photos, .selects RX5 yX5_photos yX5_photos, .initialized RX5, .code yX5_photos cX5_photos 1 (some .int), .fieldLink RX5 16 "AerialSurvey$Strip" "last" "I", .fieldLink RX5 13 "AerialSurvey$Strip" "first" "I", .fieldLink RX5 19 "AerialSurvey$Strip" "spacing" "I", .static yX8_quotient, .initialized RX8, .code yX8_quotient cX8_quotient 2 (some .int)] ++ wsX80 ++ wsX60 ++ wsX50)
def wsX8_photoColumn_r1 : List Cond := [Cond.fieldLink RX8 33 "AerialSurvey" "strips" "LAerialSurvey$StripList;", Cond.methodLink RX8 110 yX6_find, Cond.instanceMethod yX6_find, Cond.selects RX6 yX6_find yX6_find, Cond.initialized RX6, Cond.code yX6_find cX6_find 2 (some (.object "AerialSurvey$Strip")), Cond.fieldLink RX6 18 "AerialSurvey$StripList" "count" "I", Cond.fieldLink RX6 11 "AerialSurvey$StripList" "strips" "[LAerialSurvey$Strip;", Cond.methodLink RX8 127 yX5_hasPhoto, Cond.instanceMethod yX5_hasPhoto, Cond.selects RX5 yX5_hasPhoto yX5_hasPhoto, Cond.initialized RX5, Cond.code yX5_hasPhoto cX5_hasPhoto 2 (some .boolean), Cond.methodLink RX5 28 yX5_photos, Cond.instanceMethod yX5_photos, Cond.selects RX5 yX5_photos yX5_photos, Cond.code yX5_photos cX5_photos 1 (some .int), Cond.fieldLink RX5 16 "AerialSurvey$Strip" "last" "I", Cond.fieldLink RX5 13 "AerialSurvey$Strip" "first" "I", Cond.fieldLink RX5 19 "AerialSurvey$Strip" "spacing" "I", Cond.static yX8_quotient, Cond.initialized RX8, Cond.code yX8_quotient cX8_quotient 2 (some .int), Cond.methodLink RX8 131 yX5_columnOf]
def wsX8_photoColumn_r2 : List Cond := [Cond.instanceMethod yX5_columnOf, Cond.selects RX5 yX5_columnOf yX5_columnOf, Cond.code yX5_columnOf cX5_columnOf 2 (some .int)]
def wsX8_photoColumn : List Cond := .code yX8_photoColumn cX8_photoColumn 4 (some .int) :: ((wsX8_photoColumn_r1 ++ wsX8_photoColumn_r2) ++ wsX80 ++ wsX60 ++ wsX50)
def wsX8_seesCell_r1 : List Cond := [Cond.fieldLink RX8 33 "AerialSurvey" "strips" "LAerialSurvey$StripList;", Cond.fieldLink RX8 10 "AerialSurvey" "terrain" "LAerialSurvey$Terrain;", Cond.fieldLink RX8 19 "AerialSurvey" "camera" "LAerialSurvey$Camera;", Cond.fieldLink RX8 135 "AerialSurvey$Strip" "row" "I", Cond.methodLink RX8 110 yX6_find, Cond.instanceMethod yX6_find, Cond.selects RX6 yX6_find yX6_find, Cond.initialized RX6, Cond.code yX6_find cX6_find 2 (some (.object "AerialSurvey$Strip")), Cond.fieldLink RX6 18 "AerialSurvey$StripList" "count" "I", Cond.fieldLink RX6 11 "AerialSurvey$StripList" "strips" "[LAerialSurvey$Strip;", Cond.methodLink RX8 127 yX5_hasPhoto, Cond.instanceMethod yX5_hasPhoto, Cond.selects RX5 yX5_hasPhoto yX5_hasPhoto, Cond.initialized RX5, Cond.code yX5_hasPhoto cX5_hasPhoto 2 (some .boolean), Cond.methodLink RX5 28 yX5_photos, Cond.instanceMethod yX5_photos, Cond.selects RX5 yX5_photos yX5_photos, Cond.code yX5_photos cX5_photos 1 (some .int), Cond.fieldLink RX5 16 "AerialSurvey$Strip" "last" "I", Cond.fieldLink RX5 13 "AerialSurvey$Strip" "first" "I", Cond.fieldLink RX5 19 "AerialSurvey$Strip" "spacing" "I", Cond.static yX8_quotient]
def wsX8_seesCell_r2 : List Cond := [Cond.initialized RX8, Cond.code yX8_quotient cX8_quotient 2 (some .int), Cond.methodLink RX8 69 yX7_contains, Cond.instanceMethod yX7_contains, Cond.selects RX7 yX7_contains yX7_contains, Cond.initialized RX7, Cond.code yX7_contains cX7_contains 3 (some .boolean), Cond.fieldLink RX7 9 "AerialSurvey$Terrain" "rows" "I", Cond.fieldLink RX7 15 "AerialSurvey$Terrain" "columns" "I", Cond.methodLink RX8 131 yX5_columnOf, Cond.instanceMethod yX5_columnOf, Cond.selects RX5 yX5_columnOf yX5_columnOf, Cond.code yX5_columnOf cX5_columnOf 2 (some .int), Cond.methodLink RX8 138 yX1_sees, Cond.instanceMethod yX1_sees, Cond.selects RX1 yX1_sees yX1_sees, Cond.initialized RX1, Cond.code yX1_sees cX1_sees 9 (some .boolean), Cond.fieldLink RX1 7 "AerialSurvey$Camera" "altitude" "I", Cond.fieldLink RX1 19 "AerialSurvey$Camera" "crab" "I", Cond.methodLink RX1 28 Lib.Math.abs.name, Cond.static Lib.Math.abs.name, Cond.initialized "java/lang/Math", Cond.code Lib.Math.abs.name Lib.Math.abs.code 1 (some .int)]
def wsX8_seesCell_r3 : List Cond := [Cond.fieldLink RX1 13 "AerialSurvey$Camera" "alongField" "I", Cond.fieldLink RX1 16 "AerialSurvey$Camera" "acrossField" "I", Cond.methodLink RX1 22 yX7_heightAt, Cond.instanceMethod yX7_heightAt, Cond.selects RX7 yX7_heightAt yX7_heightAt, Cond.code yX7_heightAt cX7_heightAt 4 (some .int), Cond.fieldLink RX7 18 "AerialSurvey$Terrain" "heights" "[I", Cond.methodLink RX1 34 yX1_isLineFree, Cond.instanceMethod yX1_isLineFree, Cond.selects RX1 yX1_isLineFree yX1_isLineFree, Cond.code yX1_isLineFree cX1_isLineFree 14 (some .boolean), Cond.methodLink RX1 38 Lib.Math.max.name, Cond.static Lib.Math.max.name, Cond.code Lib.Math.max.name Lib.Math.max.code 2 (some .int), Cond.methodLink RX1 41 yJ9_floorDiv_7cf53, Cond.static yJ9_floorDiv_7cf53, Cond.initialized RJ9, Cond.code yJ9_floorDiv_7cf53 cJ9_floorDiv_7cf53 3 (some .int)]
def wsX8_seesCell : List Cond := .code yX8_seesCell cX8_seesCell 6 (some .int) :: ((wsX8_seesCell_r1 ++ (wsX8_seesCell_r2 ++ wsX8_seesCell_r3)) ++ wsX80 ++ wsX50 ++ wsX60 ++ wsX70 ++ wsX10)
def wsX8_footprintSize_r1 : List Cond := [Cond.fieldLink RX8 33 "AerialSurvey" "strips" "LAerialSurvey$StripList;", Cond.fieldLink RX8 10 "AerialSurvey" "terrain" "LAerialSurvey$Terrain;", Cond.fieldLink RX8 142 "AerialSurvey$Terrain" "rows" "I", Cond.fieldLink RX8 145 "AerialSurvey$Terrain" "columns" "I", Cond.fieldLink RX8 19 "AerialSurvey" "camera" "LAerialSurvey$Camera;", Cond.fieldLink RX8 135 "AerialSurvey$Strip" "row" "I", Cond.methodLink RX8 110 yX6_find, Cond.instanceMethod yX6_find, Cond.selects RX6 yX6_find yX6_find, Cond.initialized RX6, Cond.code yX6_find cX6_find 2 (some (.object "AerialSurvey$Strip")), Cond.fieldLink RX6 18 "AerialSurvey$StripList" "count" "I", Cond.fieldLink RX6 11 "AerialSurvey$StripList" "strips" "[LAerialSurvey$Strip;", Cond.methodLink RX8 127 yX5_hasPhoto, Cond.instanceMethod yX5_hasPhoto, Cond.selects RX5 yX5_hasPhoto yX5_hasPhoto, Cond.initialized RX5, Cond.code yX5_hasPhoto cX5_hasPhoto 2 (some .boolean), Cond.methodLink RX5 28 yX5_photos, Cond.instanceMethod yX5_photos, Cond.selects RX5 yX5_photos yX5_photos, Cond.code yX5_photos cX5_photos 1 (some .int), Cond.fieldLink RX5 16 "AerialSurvey$Strip" "last" "I", Cond.fieldLink RX5 13 "AerialSurvey$Strip" "first" "I"]
def wsX8_footprintSize_r2 : List Cond := [Cond.fieldLink RX5 19 "AerialSurvey$Strip" "spacing" "I", Cond.static yX8_quotient, Cond.initialized RX8, Cond.code yX8_quotient cX8_quotient 2 (some .int), Cond.methodLink RX8 131 yX5_columnOf, Cond.instanceMethod yX5_columnOf, Cond.selects RX5 yX5_columnOf yX5_columnOf, Cond.code yX5_columnOf cX5_columnOf 2 (some .int), Cond.methodLink RX8 138 yX1_sees, Cond.instanceMethod yX1_sees, Cond.selects RX1 yX1_sees yX1_sees, Cond.initialized RX1, Cond.code yX1_sees cX1_sees 9 (some .boolean), Cond.fieldLink RX1 7 "AerialSurvey$Camera" "altitude" "I", Cond.fieldLink RX1 19 "AerialSurvey$Camera" "crab" "I", Cond.methodLink RX1 28 Lib.Math.abs.name, Cond.static Lib.Math.abs.name, Cond.initialized "java/lang/Math", Cond.code Lib.Math.abs.name Lib.Math.abs.code 1 (some .int), Cond.fieldLink RX1 13 "AerialSurvey$Camera" "alongField" "I", Cond.fieldLink RX1 16 "AerialSurvey$Camera" "acrossField" "I", Cond.methodLink RX1 22 yX7_heightAt, Cond.instanceMethod yX7_heightAt, Cond.selects RX7 yX7_heightAt yX7_heightAt]
def wsX8_footprintSize_r3 : List Cond := [Cond.initialized RX7, Cond.code yX7_heightAt cX7_heightAt 4 (some .int), Cond.fieldLink RX7 18 "AerialSurvey$Terrain" "heights" "[I", Cond.methodLink RX1 34 yX1_isLineFree, Cond.instanceMethod yX1_isLineFree, Cond.selects RX1 yX1_isLineFree yX1_isLineFree, Cond.code yX1_isLineFree cX1_isLineFree 14 (some .boolean), Cond.methodLink RX1 38 Lib.Math.max.name, Cond.static Lib.Math.max.name, Cond.code Lib.Math.max.name Lib.Math.max.code 2 (some .int), Cond.methodLink RX1 41 yJ9_floorDiv_7cf53, Cond.static yJ9_floorDiv_7cf53, Cond.initialized RJ9, Cond.code yJ9_floorDiv_7cf53 cJ9_floorDiv_7cf53 3 (some .int)]
def wsX8_footprintSize : List Cond := .code yX8_footprintSize cX8_footprintSize 8 (some .int) :: ((wsX8_footprintSize_r1 ++ (wsX8_footprintSize_r2 ++ wsX8_footprintSize_r3)) ++ wsX80 ++ wsX70 ++ wsX50 ++ wsX60 ++ wsX10)
def wsX8_coverage_r1 : List Cond := [Cond.fieldLink RX8 10 "AerialSurvey" "terrain" "LAerialSurvey$Terrain;", Cond.fieldLink RX8 33 "AerialSurvey" "strips" "LAerialSurvey$StripList;", Cond.fieldLink RX8 19 "AerialSurvey" "camera" "LAerialSurvey$Camera;", Cond.constant RX8 150 (2147483647), Cond.methodLink RX8 69 yX7_contains, Cond.instanceMethod yX7_contains, Cond.selects RX7 yX7_contains yX7_contains, Cond.initialized RX7, Cond.code yX7_contains cX7_contains 3 (some .boolean), Cond.fieldLink RX7 9 "AerialSurvey$Terrain" "rows" "I", Cond.fieldLink RX7 15 "AerialSurvey$Terrain" "columns" "I", Cond.methodLink RX8 151 yX6_views, Cond.instanceMethod yX6_views, Cond.selects RX6 yX6_views yX6_views, Cond.initialized RX6, Cond.code yX6_views cX6_views 11 (some .int), Cond.fieldLink RX6 18 "AerialSurvey$StripList" "count" "I", Cond.fieldLink RX6 11 "AerialSurvey$StripList" "strips" "[LAerialSurvey$Strip;", Cond.fieldLink RX6 30 "AerialSurvey$Strip" "row" "I", Cond.methodLink RX6 61 yX5_photos, Cond.instanceMethod yX5_photos, Cond.selects RX5 yX5_photos yX5_photos, Cond.initialized RX5, Cond.code yX5_photos cX5_photos 1 (some .int)]
def wsX8_coverage_r2 : List Cond := [Cond.fieldLink RX5 16 "AerialSurvey$Strip" "last" "I", Cond.fieldLink RX5 13 "AerialSurvey$Strip" "first" "I", Cond.fieldLink RX5 19 "AerialSurvey$Strip" "spacing" "I", Cond.static yX8_quotient, Cond.initialized RX8, Cond.code yX8_quotient cX8_quotient 2 (some .int), Cond.methodLink RX6 65 yX5_columnOf, Cond.instanceMethod yX5_columnOf, Cond.selects RX5 yX5_columnOf yX5_columnOf, Cond.code yX5_columnOf cX5_columnOf 2 (some .int), Cond.methodLink RX6 69 yX1_sees, Cond.instanceMethod yX1_sees, Cond.selects RX1 yX1_sees yX1_sees, Cond.initialized RX1, Cond.code yX1_sees cX1_sees 9 (some .boolean), Cond.fieldLink RX1 7 "AerialSurvey$Camera" "altitude" "I", Cond.fieldLink RX1 19 "AerialSurvey$Camera" "crab" "I", Cond.methodLink RX1 28 Lib.Math.abs.name, Cond.static Lib.Math.abs.name, Cond.initialized "java/lang/Math", Cond.code Lib.Math.abs.name Lib.Math.abs.code 1 (some .int), Cond.fieldLink RX1 13 "AerialSurvey$Camera" "alongField" "I", Cond.fieldLink RX1 16 "AerialSurvey$Camera" "acrossField" "I", Cond.methodLink RX1 22 yX7_heightAt]
def wsX8_coverage_r3 : List Cond := [Cond.instanceMethod yX7_heightAt, Cond.selects RX7 yX7_heightAt yX7_heightAt, Cond.code yX7_heightAt cX7_heightAt 4 (some .int), Cond.fieldLink RX7 18 "AerialSurvey$Terrain" "heights" "[I", Cond.methodLink RX1 34 yX1_isLineFree, Cond.instanceMethod yX1_isLineFree, Cond.selects RX1 yX1_isLineFree yX1_isLineFree, Cond.code yX1_isLineFree cX1_isLineFree 14 (some .boolean), Cond.methodLink RX1 38 Lib.Math.max.name, Cond.static Lib.Math.max.name, Cond.code Lib.Math.max.name Lib.Math.max.code 2 (some .int), Cond.methodLink RX1 41 yJ9_floorDiv_7cf53, Cond.static yJ9_floorDiv_7cf53, Cond.initialized RJ9, Cond.code yJ9_floorDiv_7cf53 cJ9_floorDiv_7cf53 3 (some .int)]
def wsX8_coverage : List Cond := .code yX8_coverage cX8_coverage 3 (some .int) :: ((wsX8_coverage_r1 ++ (wsX8_coverage_r2 ++ wsX8_coverage_r3)) ++ wsX80 ++ wsX70 ++ wsX60 ++ wsX50 ++ wsX10)
def wsX8_gapCount_r1 : List Cond := [Cond.fieldLink RX8 10 "AerialSurvey" "terrain" "LAerialSurvey$Terrain;", Cond.fieldLink RX8 142 "AerialSurvey$Terrain" "rows" "I", Cond.fieldLink RX8 145 "AerialSurvey$Terrain" "columns" "I", Cond.fieldLink RX8 33 "AerialSurvey" "strips" "LAerialSurvey$StripList;", Cond.fieldLink RX8 19 "AerialSurvey" "camera" "LAerialSurvey$Camera;", Cond.methodLink RX8 58 yX8_isWithin, Cond.static yX8_isWithin, Cond.initialized RX8, Cond.code yX8_isWithin cX8_isWithin 3 (some .boolean), Cond.methodLink RX8 151 yX6_views, Cond.instanceMethod yX6_views, Cond.selects RX6 yX6_views yX6_views, Cond.initialized RX6, Cond.code yX6_views cX6_views 11 (some .int), Cond.fieldLink RX6 18 "AerialSurvey$StripList" "count" "I", Cond.fieldLink RX6 11 "AerialSurvey$StripList" "strips" "[LAerialSurvey$Strip;", Cond.fieldLink RX6 30 "AerialSurvey$Strip" "row" "I", Cond.methodLink RX6 61 yX5_photos, Cond.instanceMethod yX5_photos, Cond.selects RX5 yX5_photos yX5_photos, Cond.initialized RX5, Cond.code yX5_photos cX5_photos 1 (some .int), Cond.fieldLink RX5 16 "AerialSurvey$Strip" "last" "I", Cond.fieldLink RX5 13 "AerialSurvey$Strip" "first" "I"]
def wsX8_gapCount_r2 : List Cond := [Cond.fieldLink RX5 19 "AerialSurvey$Strip" "spacing" "I", Cond.static yX8_quotient, Cond.code yX8_quotient cX8_quotient 2 (some .int), Cond.methodLink RX6 65 yX5_columnOf, Cond.instanceMethod yX5_columnOf, Cond.selects RX5 yX5_columnOf yX5_columnOf, Cond.code yX5_columnOf cX5_columnOf 2 (some .int), Cond.methodLink RX6 69 yX1_sees, Cond.instanceMethod yX1_sees, Cond.selects RX1 yX1_sees yX1_sees, Cond.initialized RX1, Cond.code yX1_sees cX1_sees 9 (some .boolean), Cond.fieldLink RX1 7 "AerialSurvey$Camera" "altitude" "I", Cond.fieldLink RX1 19 "AerialSurvey$Camera" "crab" "I", Cond.methodLink RX1 28 Lib.Math.abs.name, Cond.static Lib.Math.abs.name, Cond.initialized "java/lang/Math", Cond.code Lib.Math.abs.name Lib.Math.abs.code 1 (some .int), Cond.fieldLink RX1 13 "AerialSurvey$Camera" "alongField" "I", Cond.fieldLink RX1 16 "AerialSurvey$Camera" "acrossField" "I", Cond.methodLink RX1 22 yX7_heightAt, Cond.instanceMethod yX7_heightAt, Cond.selects RX7 yX7_heightAt yX7_heightAt, Cond.initialized RX7]
def wsX8_gapCount_r3 : List Cond := [Cond.code yX7_heightAt cX7_heightAt 4 (some .int), Cond.fieldLink RX7 18 "AerialSurvey$Terrain" "heights" "[I", Cond.methodLink RX1 34 yX1_isLineFree, Cond.instanceMethod yX1_isLineFree, Cond.selects RX1 yX1_isLineFree yX1_isLineFree, Cond.code yX1_isLineFree cX1_isLineFree 14 (some .boolean), Cond.methodLink RX1 38 Lib.Math.max.name, Cond.static Lib.Math.max.name, Cond.code Lib.Math.max.name Lib.Math.max.code 2 (some .int), Cond.methodLink RX1 41 yJ9_floorDiv_7cf53, Cond.static yJ9_floorDiv_7cf53, Cond.initialized RJ9, Cond.code yJ9_floorDiv_7cf53 cJ9_floorDiv_7cf53 3 (some .int)]
def wsX8_gapCount : List Cond := .code yX8_gapCount cX8_gapCount 5 (some .int) :: ((wsX8_gapCount_r1 ++ (wsX8_gapCount_r2 ++ wsX8_gapCount_r3)) ++ wsX80 ++ wsX70 ++ wsX60 ++ wsX50 ++ wsX10)
def wsX8_gapAt_r1 : List Cond := [Cond.fieldLink RX8 10 "AerialSurvey" "terrain" "LAerialSurvey$Terrain;", Cond.fieldLink RX8 142 "AerialSurvey$Terrain" "rows" "I", Cond.fieldLink RX8 145 "AerialSurvey$Terrain" "columns" "I", Cond.fieldLink RX8 33 "AerialSurvey" "strips" "LAerialSurvey$StripList;", Cond.fieldLink RX8 19 "AerialSurvey" "camera" "LAerialSurvey$Camera;", Cond.methodLink RX8 58 yX8_isWithin, Cond.static yX8_isWithin, Cond.initialized RX8, Cond.code yX8_isWithin cX8_isWithin 3 (some .boolean), Cond.methodLink RX8 151 yX6_views, Cond.instanceMethod yX6_views, Cond.selects RX6 yX6_views yX6_views, Cond.initialized RX6, Cond.code yX6_views cX6_views 11 (some .int), Cond.fieldLink RX6 18 "AerialSurvey$StripList" "count" "I", Cond.fieldLink RX6 11 "AerialSurvey$StripList" "strips" "[LAerialSurvey$Strip;", Cond.fieldLink RX6 30 "AerialSurvey$Strip" "row" "I", Cond.methodLink RX6 61 yX5_photos, Cond.instanceMethod yX5_photos, Cond.selects RX5 yX5_photos yX5_photos, Cond.initialized RX5, Cond.code yX5_photos cX5_photos 1 (some .int), Cond.fieldLink RX5 16 "AerialSurvey$Strip" "last" "I", Cond.fieldLink RX5 13 "AerialSurvey$Strip" "first" "I"]
def wsX8_gapAt_r2 : List Cond := [Cond.fieldLink RX5 19 "AerialSurvey$Strip" "spacing" "I", Cond.static yX8_quotient, Cond.code yX8_quotient cX8_quotient 2 (some .int), Cond.methodLink RX6 65 yX5_columnOf, Cond.instanceMethod yX5_columnOf, Cond.selects RX5 yX5_columnOf yX5_columnOf, Cond.code yX5_columnOf cX5_columnOf 2 (some .int), Cond.methodLink RX6 69 yX1_sees, Cond.instanceMethod yX1_sees, Cond.selects RX1 yX1_sees yX1_sees, Cond.initialized RX1, Cond.code yX1_sees cX1_sees 9 (some .boolean), Cond.fieldLink RX1 7 "AerialSurvey$Camera" "altitude" "I", Cond.fieldLink RX1 19 "AerialSurvey$Camera" "crab" "I", Cond.methodLink RX1 28 Lib.Math.abs.name, Cond.static Lib.Math.abs.name, Cond.initialized "java/lang/Math", Cond.code Lib.Math.abs.name Lib.Math.abs.code 1 (some .int), Cond.fieldLink RX1 13 "AerialSurvey$Camera" "alongField" "I", Cond.fieldLink RX1 16 "AerialSurvey$Camera" "acrossField" "I", Cond.methodLink RX1 22 yX7_heightAt, Cond.instanceMethod yX7_heightAt, Cond.selects RX7 yX7_heightAt yX7_heightAt, Cond.initialized RX7]
def wsX8_gapAt_r3 : List Cond := [Cond.code yX7_heightAt cX7_heightAt 4 (some .int), Cond.fieldLink RX7 18 "AerialSurvey$Terrain" "heights" "[I", Cond.methodLink RX1 34 yX1_isLineFree, Cond.instanceMethod yX1_isLineFree, Cond.selects RX1 yX1_isLineFree yX1_isLineFree, Cond.code yX1_isLineFree cX1_isLineFree 14 (some .boolean), Cond.methodLink RX1 38 Lib.Math.max.name, Cond.static Lib.Math.max.name, Cond.code Lib.Math.max.name Lib.Math.max.code 2 (some .int), Cond.methodLink RX1 41 yJ9_floorDiv_7cf53, Cond.static yJ9_floorDiv_7cf53, Cond.initialized RJ9, Cond.code yJ9_floorDiv_7cf53 cJ9_floorDiv_7cf53 3 (some .int)]
def wsX8_gapAt : List Cond := .code yX8_gapAt cX8_gapAt 6 (some .int) :: ((wsX8_gapAt_r1 ++ (wsX8_gapAt_r2 ++ wsX8_gapAt_r3)) ++ wsX80 ++ wsX70 ++ wsX60 ++ wsX50 ++ wsX10)
def wsX8_forwardOverlap_r1 : List Cond := [Cond.fieldLink RX8 33 "AerialSurvey" "strips" "LAerialSurvey$StripList;", Cond.fieldLink RX8 40 "AerialSurvey" "overlap" "LAerialSurvey$Overlap;", Cond.fieldLink RX8 10 "AerialSurvey" "terrain" "LAerialSurvey$Terrain;", Cond.fieldLink RX8 142 "AerialSurvey$Terrain" "rows" "I", Cond.fieldLink RX8 145 "AerialSurvey$Terrain" "columns" "I", Cond.fieldLink RX8 19 "AerialSurvey" "camera" "LAerialSurvey$Camera;", Cond.fieldLink RX8 135 "AerialSurvey$Strip" "row" "I", Cond.methodLink RX8 110 yX6_find, Cond.instanceMethod yX6_find, Cond.selects RX6 yX6_find yX6_find, Cond.initialized RX6, Cond.code yX6_find cX6_find 2 (some (.object "AerialSurvey$Strip")), Cond.fieldLink RX6 18 "AerialSurvey$StripList" "count" "I", Cond.fieldLink RX6 11 "AerialSurvey$StripList" "strips" "[LAerialSurvey$Strip;", Cond.methodLink RX8 127 yX5_hasPhoto, Cond.instanceMethod yX5_hasPhoto, Cond.selects RX5 yX5_hasPhoto yX5_hasPhoto, Cond.initialized RX5, Cond.code yX5_hasPhoto cX5_hasPhoto 2 (some .boolean), Cond.methodLink RX5 28 yX5_photos, Cond.instanceMethod yX5_photos, Cond.selects RX5 yX5_photos yX5_photos, Cond.code yX5_photos cX5_photos 1 (some .int), Cond.fieldLink RX5 16 "AerialSurvey$Strip" "last" "I"]
def wsX8_forwardOverlap_r2 : List Cond := [Cond.fieldLink RX5 13 "AerialSurvey$Strip" "first" "I", Cond.fieldLink RX5 19 "AerialSurvey$Strip" "spacing" "I", Cond.static yX8_quotient, Cond.initialized RX8, Cond.code yX8_quotient cX8_quotient 2 (some .int), Cond.methodLink RX8 131 yX5_columnOf, Cond.instanceMethod yX5_columnOf, Cond.selects RX5 yX5_columnOf yX5_columnOf, Cond.code yX5_columnOf cX5_columnOf 2 (some .int), Cond.methodLink RX8 155 yX2_clear, Cond.instanceMethod yX2_clear, Cond.selects RX2 yX2_clear yX2_clear, Cond.initialized RX2, Cond.code yX2_clear cX2_clear 1 none, Cond.fieldLink RX2 7 "AerialSurvey$Overlap" "one" "I", Cond.fieldLink RX2 13 "AerialSurvey$Overlap" "other" "I", Cond.fieldLink RX2 16 "AerialSurvey$Overlap" "both" "I", Cond.methodLink RX8 138 yX1_sees, Cond.instanceMethod yX1_sees, Cond.selects RX1 yX1_sees yX1_sees, Cond.initialized RX1, Cond.code yX1_sees cX1_sees 9 (some .boolean), Cond.fieldLink RX1 7 "AerialSurvey$Camera" "altitude" "I", Cond.fieldLink RX1 19 "AerialSurvey$Camera" "crab" "I"]
def wsX8_forwardOverlap_r3 : List Cond := [Cond.methodLink RX1 28 Lib.Math.abs.name, Cond.static Lib.Math.abs.name, Cond.initialized "java/lang/Math", Cond.code Lib.Math.abs.name Lib.Math.abs.code 1 (some .int), Cond.fieldLink RX1 13 "AerialSurvey$Camera" "alongField" "I", Cond.fieldLink RX1 16 "AerialSurvey$Camera" "acrossField" "I", Cond.methodLink RX1 22 yX7_heightAt, Cond.instanceMethod yX7_heightAt, Cond.selects RX7 yX7_heightAt yX7_heightAt, Cond.initialized RX7, Cond.code yX7_heightAt cX7_heightAt 4 (some .int), Cond.fieldLink RX7 18 "AerialSurvey$Terrain" "heights" "[I", Cond.methodLink RX1 34 yX1_isLineFree, Cond.instanceMethod yX1_isLineFree, Cond.selects RX1 yX1_isLineFree yX1_isLineFree, Cond.code yX1_isLineFree cX1_isLineFree 14 (some .boolean), Cond.methodLink RX1 38 Lib.Math.max.name, Cond.static Lib.Math.max.name, Cond.code Lib.Math.max.name Lib.Math.max.code 2 (some .int), Cond.methodLink RX1 41 yJ9_floorDiv_7cf53, Cond.static yJ9_floorDiv_7cf53, Cond.initialized RJ9, Cond.code yJ9_floorDiv_7cf53 cJ9_floorDiv_7cf53 3 (some .int), Cond.methodLink RX8 156 yX2_countCell]
def wsX8_forwardOverlap_r4 : List Cond := [Cond.instanceMethod yX2_countCell, Cond.selects RX2 yX2_countCell yX2_countCell, Cond.code yX2_countCell cX2_countCell 3 none, Cond.methodLink RX8 160 yX2_percent, Cond.instanceMethod yX2_percent, Cond.selects RX2 yX2_percent yX2_percent, Cond.code yX2_percent cX2_percent 1 (some .int), Cond.methodLink RX2 19 Lib.Math.min.name, Cond.static Lib.Math.min.name, Cond.code Lib.Math.min.name Lib.Math.min.code 2 (some .int)]
def wsX8_forwardOverlap : List Cond := .code yX8_forwardOverlap cX8_forwardOverlap 8 (some .int) :: ((wsX8_forwardOverlap_r1 ++ (wsX8_forwardOverlap_r2 ++ (wsX8_forwardOverlap_r3 ++ wsX8_forwardOverlap_r4))) ++ wsX80 ++ wsX70 ++ wsX50 ++ wsX60 ++ wsX20 ++ wsX10)
def wsX8_sideOverlap_r1 : List Cond := [Cond.fieldLink RX8 33 "AerialSurvey" "strips" "LAerialSurvey$StripList;", Cond.fieldLink RX8 40 "AerialSurvey" "overlap" "LAerialSurvey$Overlap;", Cond.fieldLink RX8 10 "AerialSurvey" "terrain" "LAerialSurvey$Terrain;", Cond.fieldLink RX8 142 "AerialSurvey$Terrain" "rows" "I", Cond.fieldLink RX8 145 "AerialSurvey$Terrain" "columns" "I", Cond.fieldLink RX8 19 "AerialSurvey" "camera" "LAerialSurvey$Camera;", Cond.methodLink RX8 110 yX6_find, Cond.instanceMethod yX6_find, Cond.selects RX6 yX6_find yX6_find, Cond.initialized RX6, Cond.code yX6_find cX6_find 2 (some (.object "AerialSurvey$Strip")), Cond.fieldLink RX6 18 "AerialSurvey$StripList" "count" "I", Cond.fieldLink RX6 11 "AerialSurvey$StripList" "strips" "[LAerialSurvey$Strip;", Cond.methodLink RX8 155 yX2_clear, Cond.instanceMethod yX2_clear, Cond.selects RX2 yX2_clear yX2_clear, Cond.initialized RX2, Cond.code yX2_clear cX2_clear 1 none, Cond.fieldLink RX2 7 "AerialSurvey$Overlap" "one" "I", Cond.fieldLink RX2 13 "AerialSurvey$Overlap" "other" "I", Cond.fieldLink RX2 16 "AerialSurvey$Overlap" "both" "I", Cond.methodLink RX8 163 yX5_sees, Cond.instanceMethod yX5_sees, Cond.selects RX5 yX5_sees yX5_sees]
def wsX8_sideOverlap_r2 : List Cond := [Cond.initialized RX5, Cond.code yX5_sees cX5_sees 7 (some .boolean), Cond.fieldLink RX5 7 "AerialSurvey$Strip" "row" "I", Cond.methodLink RX5 28 yX5_photos, Cond.instanceMethod yX5_photos, Cond.selects RX5 yX5_photos yX5_photos, Cond.code yX5_photos cX5_photos 1 (some .int), Cond.fieldLink RX5 16 "AerialSurvey$Strip" "last" "I", Cond.fieldLink RX5 13 "AerialSurvey$Strip" "first" "I", Cond.fieldLink RX5 19 "AerialSurvey$Strip" "spacing" "I", Cond.static yX8_quotient, Cond.initialized RX8, Cond.code yX8_quotient cX8_quotient 2 (some .int), Cond.methodLink RX5 32 yX5_columnOf, Cond.instanceMethod yX5_columnOf, Cond.selects RX5 yX5_columnOf yX5_columnOf, Cond.code yX5_columnOf cX5_columnOf 2 (some .int), Cond.methodLink RX5 36 yX1_sees, Cond.instanceMethod yX1_sees, Cond.selects RX1 yX1_sees yX1_sees, Cond.initialized RX1, Cond.code yX1_sees cX1_sees 9 (some .boolean), Cond.fieldLink RX1 7 "AerialSurvey$Camera" "altitude" "I", Cond.fieldLink RX1 19 "AerialSurvey$Camera" "crab" "I"]
def wsX8_sideOverlap_r3 : List Cond := [Cond.methodLink RX1 28 Lib.Math.abs.name, Cond.static Lib.Math.abs.name, Cond.initialized "java/lang/Math", Cond.code Lib.Math.abs.name Lib.Math.abs.code 1 (some .int), Cond.fieldLink RX1 13 "AerialSurvey$Camera" "alongField" "I", Cond.fieldLink RX1 16 "AerialSurvey$Camera" "acrossField" "I", Cond.methodLink RX1 22 yX7_heightAt, Cond.instanceMethod yX7_heightAt, Cond.selects RX7 yX7_heightAt yX7_heightAt, Cond.initialized RX7, Cond.code yX7_heightAt cX7_heightAt 4 (some .int), Cond.fieldLink RX7 18 "AerialSurvey$Terrain" "heights" "[I", Cond.methodLink RX1 34 yX1_isLineFree, Cond.instanceMethod yX1_isLineFree, Cond.selects RX1 yX1_isLineFree yX1_isLineFree, Cond.code yX1_isLineFree cX1_isLineFree 14 (some .boolean), Cond.methodLink RX1 38 Lib.Math.max.name, Cond.static Lib.Math.max.name, Cond.code Lib.Math.max.name Lib.Math.max.code 2 (some .int), Cond.methodLink RX1 41 yJ9_floorDiv_7cf53, Cond.static yJ9_floorDiv_7cf53, Cond.initialized RJ9, Cond.code yJ9_floorDiv_7cf53 cJ9_floorDiv_7cf53 3 (some .int), Cond.methodLink RX8 156 yX2_countCell]
def wsX8_sideOverlap_r4 : List Cond := [Cond.instanceMethod yX2_countCell, Cond.selects RX2 yX2_countCell yX2_countCell, Cond.code yX2_countCell cX2_countCell 3 none, Cond.methodLink RX8 160 yX2_percent, Cond.instanceMethod yX2_percent, Cond.selects RX2 yX2_percent yX2_percent, Cond.code yX2_percent cX2_percent 1 (some .int), Cond.methodLink RX2 19 Lib.Math.min.name, Cond.static Lib.Math.min.name, Cond.code Lib.Math.min.name Lib.Math.min.code 2 (some .int)]
def wsX8_sideOverlap : List Cond := .code yX8_sideOverlap cX8_sideOverlap 7 (some .int) :: ((wsX8_sideOverlap_r1 ++ (wsX8_sideOverlap_r2 ++ (wsX8_sideOverlap_r3 ++ wsX8_sideOverlap_r4))) ++ wsX80 ++ wsX70 ++ wsX60 ++ wsX20 ++ wsX50 ++ wsX10)
def wsX8_planPhotos_r1 : List Cond := [Cond.fieldLink RX8 47 "AerialSurvey" "planner" "LAerialSurvey$Planner;", Cond.fieldLink RX8 10 "AerialSurvey" "terrain" "LAerialSurvey$Terrain;", Cond.fieldLink RX8 19 "AerialSurvey" "camera" "LAerialSurvey$Camera;", Cond.fieldLink RX8 170 "AerialSurvey$Planner" "photos" "I", Cond.methodLink RX8 58 yX8_isWithin, Cond.static yX8_isWithin, Cond.initialized RX8, Cond.code yX8_isWithin cX8_isWithin 3 (some .boolean), Cond.methodLink RX8 166 yX3_search, Cond.instanceMethod yX3_search, Cond.selects RX3 yX3_search yX3_search, Cond.initialized RX3, Cond.code yX3_search cX3_search 7 (some .boolean), Cond.fieldLink RX3 16 "AerialSurvey$Terrain" "rows" "I", Cond.fieldLink RX3 22 "AerialSurvey$Terrain" "columns" "I", Cond.fieldLink RX3 10 "AerialSurvey$Planner" "trial" "LAerialSurvey$StripList;", Cond.fieldLink RX3 33 "AerialSurvey$Planner" "photos" "I", Cond.fieldLink RX3 40 "AerialSurvey$Planner" "rowSpacing" "I", Cond.fieldLink RX3 43 "AerialSurvey$Planner" "photoSpacing" "I", Cond.methodLink RX3 25 yX6_layOut, Cond.instanceMethod yX6_layOut, Cond.selects RX6 yX6_layOut yX6_layOut, Cond.initialized RX6, Cond.code yX6_layOut cX6_layOut 7 (some .boolean)]
def wsX8_planPhotos_r2 : List Cond := [Cond.fieldLink RX6 42 "AerialSurvey$Terrain" "rows" "I", Cond.fieldLink RX6 11 "AerialSurvey$StripList" "strips" "[LAerialSurvey$Strip;", Cond.fieldLink RX6 54 "AerialSurvey$Terrain" "columns" "I", Cond.static yX8_quotient, Cond.code yX8_quotient cX8_quotient 2 (some .int), Cond.methodLink RX6 51 yX6_clear, Cond.instanceMethod yX6_clear, Cond.selects RX6 yX6_clear yX6_clear, Cond.code yX6_clear cX6_clear 1 none, Cond.fieldLink RX6 18 "AerialSurvey$StripList" "count" "I", Cond.methodLink RX6 57 yX6_add, Cond.instanceMethod yX6_add, Cond.selects RX6 yX6_add yX6_add, Cond.code yX6_add cX6_add 5 (some .int), Cond.methodLink RX6 22 yX5_put, Cond.instanceMethod yX5_put, Cond.selects RX5 yX5_put yX5_put, Cond.initialized RX5, Cond.code yX5_put cX5_put 5 none, Cond.fieldLink RX5 7 "AerialSurvey$Strip" "row" "I", Cond.fieldLink RX5 13 "AerialSurvey$Strip" "first" "I", Cond.fieldLink RX5 16 "AerialSurvey$Strip" "last" "I", Cond.fieldLink RX5 19 "AerialSurvey$Strip" "spacing" "I", Cond.methodLink RX3 29 yX6_photoTotal]
def wsX8_planPhotos_r3 : List Cond := [Cond.instanceMethod yX6_photoTotal, Cond.selects RX6 yX6_photoTotal yX6_photoTotal, Cond.code yX6_photoTotal cX6_photoTotal 3 (some .int), Cond.methodLink RX6 61 yX5_photos, Cond.instanceMethod yX5_photos, Cond.selects RX5 yX5_photos yX5_photos, Cond.code yX5_photos cX5_photos 1 (some .int), Cond.methodLink RX3 36 yX6_leavesGap, Cond.instanceMethod yX6_leavesGap, Cond.selects RX6 yX6_leavesGap yX6_leavesGap, Cond.code yX6_leavesGap cX6_leavesGap 6 (some .boolean), Cond.methodLink RX6 75 yX6_views, Cond.instanceMethod yX6_views, Cond.selects RX6 yX6_views yX6_views, Cond.code yX6_views cX6_views 11 (some .int), Cond.fieldLink RX6 30 "AerialSurvey$Strip" "row" "I", Cond.methodLink RX6 65 yX5_columnOf, Cond.instanceMethod yX5_columnOf, Cond.selects RX5 yX5_columnOf yX5_columnOf, Cond.code yX5_columnOf cX5_columnOf 2 (some .int), Cond.methodLink RX6 69 yX1_sees, Cond.instanceMethod yX1_sees, Cond.selects RX1 yX1_sees yX1_sees, Cond.initialized RX1]
def wsX8_planPhotos_r4 : List Cond := [Cond.code yX1_sees cX1_sees 9 (some .boolean), Cond.fieldLink RX1 7 "AerialSurvey$Camera" "altitude" "I", Cond.fieldLink RX1 19 "AerialSurvey$Camera" "crab" "I", Cond.methodLink RX1 28 Lib.Math.abs.name, Cond.static Lib.Math.abs.name, Cond.initialized "java/lang/Math", Cond.code Lib.Math.abs.name Lib.Math.abs.code 1 (some .int), Cond.fieldLink RX1 13 "AerialSurvey$Camera" "alongField" "I", Cond.fieldLink RX1 16 "AerialSurvey$Camera" "acrossField" "I", Cond.methodLink RX1 22 yX7_heightAt, Cond.instanceMethod yX7_heightAt, Cond.selects RX7 yX7_heightAt yX7_heightAt, Cond.initialized RX7, Cond.code yX7_heightAt cX7_heightAt 4 (some .int), Cond.fieldLink RX7 18 "AerialSurvey$Terrain" "heights" "[I", Cond.methodLink RX1 34 yX1_isLineFree, Cond.instanceMethod yX1_isLineFree, Cond.selects RX1 yX1_isLineFree yX1_isLineFree, Cond.code yX1_isLineFree cX1_isLineFree 14 (some .boolean), Cond.methodLink RX1 38 Lib.Math.max.name, Cond.static Lib.Math.max.name, Cond.code Lib.Math.max.name Lib.Math.max.code 2 (some .int), Cond.methodLink RX1 41 yJ9_floorDiv_7cf53, Cond.static yJ9_floorDiv_7cf53]
def wsX8_planPhotos_r5 : List Cond := [Cond.initialized RJ9, Cond.code yJ9_floorDiv_7cf53 cJ9_floorDiv_7cf53 3 (some .int)]
def wsX8_planPhotos : List Cond := .code yX8_planPhotos cX8_planPhotos 2 (some .int) :: ((wsX8_planPhotos_r1 ++ (wsX8_planPhotos_r2 ++ (wsX8_planPhotos_r3 ++ (wsX8_planPhotos_r4 ++ wsX8_planPhotos_r5)))) ++ wsX80 ++ wsX30 ++ wsX70 ++ wsX60 ++ wsX50 ++ wsX10)
def wsX8_planRowSpacing_r1 : List Cond := [Cond.fieldLink RX8 47 "AerialSurvey" "planner" "LAerialSurvey$Planner;", Cond.fieldLink RX8 10 "AerialSurvey" "terrain" "LAerialSurvey$Terrain;", Cond.fieldLink RX8 19 "AerialSurvey" "camera" "LAerialSurvey$Camera;", Cond.fieldLink RX8 172 "AerialSurvey$Planner" "rowSpacing" "I", Cond.methodLink RX8 58 yX8_isWithin, Cond.static yX8_isWithin, Cond.initialized RX8, Cond.code yX8_isWithin cX8_isWithin 3 (some .boolean), Cond.methodLink RX8 166 yX3_search, Cond.instanceMethod yX3_search, Cond.selects RX3 yX3_search yX3_search, Cond.initialized RX3, Cond.code yX3_search cX3_search 7 (some .boolean), Cond.fieldLink RX3 16 "AerialSurvey$Terrain" "rows" "I", Cond.fieldLink RX3 22 "AerialSurvey$Terrain" "columns" "I", Cond.fieldLink RX3 10 "AerialSurvey$Planner" "trial" "LAerialSurvey$StripList;", Cond.fieldLink RX3 33 "AerialSurvey$Planner" "photos" "I", Cond.fieldLink RX3 40 "AerialSurvey$Planner" "rowSpacing" "I", Cond.fieldLink RX3 43 "AerialSurvey$Planner" "photoSpacing" "I", Cond.methodLink RX3 25 yX6_layOut, Cond.instanceMethod yX6_layOut, Cond.selects RX6 yX6_layOut yX6_layOut, Cond.initialized RX6, Cond.code yX6_layOut cX6_layOut 7 (some .boolean)]
def wsX8_planRowSpacing_r2 : List Cond := [Cond.fieldLink RX6 42 "AerialSurvey$Terrain" "rows" "I", Cond.fieldLink RX6 11 "AerialSurvey$StripList" "strips" "[LAerialSurvey$Strip;", Cond.fieldLink RX6 54 "AerialSurvey$Terrain" "columns" "I", Cond.static yX8_quotient, Cond.code yX8_quotient cX8_quotient 2 (some .int), Cond.methodLink RX6 51 yX6_clear, Cond.instanceMethod yX6_clear, Cond.selects RX6 yX6_clear yX6_clear, Cond.code yX6_clear cX6_clear 1 none, Cond.fieldLink RX6 18 "AerialSurvey$StripList" "count" "I", Cond.methodLink RX6 57 yX6_add, Cond.instanceMethod yX6_add, Cond.selects RX6 yX6_add yX6_add, Cond.code yX6_add cX6_add 5 (some .int), Cond.methodLink RX6 22 yX5_put, Cond.instanceMethod yX5_put, Cond.selects RX5 yX5_put yX5_put, Cond.initialized RX5, Cond.code yX5_put cX5_put 5 none, Cond.fieldLink RX5 7 "AerialSurvey$Strip" "row" "I", Cond.fieldLink RX5 13 "AerialSurvey$Strip" "first" "I", Cond.fieldLink RX5 16 "AerialSurvey$Strip" "last" "I", Cond.fieldLink RX5 19 "AerialSurvey$Strip" "spacing" "I", Cond.methodLink RX3 29 yX6_photoTotal]
def wsX8_planRowSpacing_r3 : List Cond := [Cond.instanceMethod yX6_photoTotal, Cond.selects RX6 yX6_photoTotal yX6_photoTotal, Cond.code yX6_photoTotal cX6_photoTotal 3 (some .int), Cond.methodLink RX6 61 yX5_photos, Cond.instanceMethod yX5_photos, Cond.selects RX5 yX5_photos yX5_photos, Cond.code yX5_photos cX5_photos 1 (some .int), Cond.methodLink RX3 36 yX6_leavesGap, Cond.instanceMethod yX6_leavesGap, Cond.selects RX6 yX6_leavesGap yX6_leavesGap, Cond.code yX6_leavesGap cX6_leavesGap 6 (some .boolean), Cond.methodLink RX6 75 yX6_views, Cond.instanceMethod yX6_views, Cond.selects RX6 yX6_views yX6_views, Cond.code yX6_views cX6_views 11 (some .int), Cond.fieldLink RX6 30 "AerialSurvey$Strip" "row" "I", Cond.methodLink RX6 65 yX5_columnOf, Cond.instanceMethod yX5_columnOf, Cond.selects RX5 yX5_columnOf yX5_columnOf, Cond.code yX5_columnOf cX5_columnOf 2 (some .int), Cond.methodLink RX6 69 yX1_sees, Cond.instanceMethod yX1_sees, Cond.selects RX1 yX1_sees yX1_sees, Cond.initialized RX1]
def wsX8_planRowSpacing_r4 : List Cond := [Cond.code yX1_sees cX1_sees 9 (some .boolean), Cond.fieldLink RX1 7 "AerialSurvey$Camera" "altitude" "I", Cond.fieldLink RX1 19 "AerialSurvey$Camera" "crab" "I", Cond.methodLink RX1 28 Lib.Math.abs.name, Cond.static Lib.Math.abs.name, Cond.initialized "java/lang/Math", Cond.code Lib.Math.abs.name Lib.Math.abs.code 1 (some .int), Cond.fieldLink RX1 13 "AerialSurvey$Camera" "alongField" "I", Cond.fieldLink RX1 16 "AerialSurvey$Camera" "acrossField" "I", Cond.methodLink RX1 22 yX7_heightAt, Cond.instanceMethod yX7_heightAt, Cond.selects RX7 yX7_heightAt yX7_heightAt, Cond.initialized RX7, Cond.code yX7_heightAt cX7_heightAt 4 (some .int), Cond.fieldLink RX7 18 "AerialSurvey$Terrain" "heights" "[I", Cond.methodLink RX1 34 yX1_isLineFree, Cond.instanceMethod yX1_isLineFree, Cond.selects RX1 yX1_isLineFree yX1_isLineFree, Cond.code yX1_isLineFree cX1_isLineFree 14 (some .boolean), Cond.methodLink RX1 38 Lib.Math.max.name, Cond.static Lib.Math.max.name, Cond.code Lib.Math.max.name Lib.Math.max.code 2 (some .int), Cond.methodLink RX1 41 yJ9_floorDiv_7cf53, Cond.static yJ9_floorDiv_7cf53]
def wsX8_planRowSpacing_r5 : List Cond := [Cond.initialized RJ9, Cond.code yJ9_floorDiv_7cf53 cJ9_floorDiv_7cf53 3 (some .int)]
def wsX8_planRowSpacing : List Cond := .code yX8_planRowSpacing cX8_planRowSpacing 2 (some .int) :: ((wsX8_planRowSpacing_r1 ++ (wsX8_planRowSpacing_r2 ++ (wsX8_planRowSpacing_r3 ++ (wsX8_planRowSpacing_r4 ++ wsX8_planRowSpacing_r5)))) ++ wsX80 ++ wsX30 ++ wsX70 ++ wsX60 ++ wsX50 ++ wsX10)
def wsX8_planPhotoSpacing_r1 : List Cond := [Cond.fieldLink RX8 47 "AerialSurvey" "planner" "LAerialSurvey$Planner;", Cond.fieldLink RX8 10 "AerialSurvey" "terrain" "LAerialSurvey$Terrain;", Cond.fieldLink RX8 19 "AerialSurvey" "camera" "LAerialSurvey$Camera;", Cond.fieldLink RX8 175 "AerialSurvey$Planner" "photoSpacing" "I", Cond.methodLink RX8 58 yX8_isWithin, Cond.static yX8_isWithin, Cond.initialized RX8, Cond.code yX8_isWithin cX8_isWithin 3 (some .boolean), Cond.methodLink RX8 166 yX3_search, Cond.instanceMethod yX3_search, Cond.selects RX3 yX3_search yX3_search, Cond.initialized RX3, Cond.code yX3_search cX3_search 7 (some .boolean), Cond.fieldLink RX3 16 "AerialSurvey$Terrain" "rows" "I", Cond.fieldLink RX3 22 "AerialSurvey$Terrain" "columns" "I", Cond.fieldLink RX3 10 "AerialSurvey$Planner" "trial" "LAerialSurvey$StripList;", Cond.fieldLink RX3 33 "AerialSurvey$Planner" "photos" "I", Cond.fieldLink RX3 40 "AerialSurvey$Planner" "rowSpacing" "I", Cond.fieldLink RX3 43 "AerialSurvey$Planner" "photoSpacing" "I", Cond.methodLink RX3 25 yX6_layOut, Cond.instanceMethod yX6_layOut, Cond.selects RX6 yX6_layOut yX6_layOut, Cond.initialized RX6, Cond.code yX6_layOut cX6_layOut 7 (some .boolean)]
def wsX8_planPhotoSpacing_r2 : List Cond := [Cond.fieldLink RX6 42 "AerialSurvey$Terrain" "rows" "I", Cond.fieldLink RX6 11 "AerialSurvey$StripList" "strips" "[LAerialSurvey$Strip;", Cond.fieldLink RX6 54 "AerialSurvey$Terrain" "columns" "I", Cond.static yX8_quotient, Cond.code yX8_quotient cX8_quotient 2 (some .int), Cond.methodLink RX6 51 yX6_clear, Cond.instanceMethod yX6_clear, Cond.selects RX6 yX6_clear yX6_clear, Cond.code yX6_clear cX6_clear 1 none, Cond.fieldLink RX6 18 "AerialSurvey$StripList" "count" "I", Cond.methodLink RX6 57 yX6_add, Cond.instanceMethod yX6_add, Cond.selects RX6 yX6_add yX6_add, Cond.code yX6_add cX6_add 5 (some .int), Cond.methodLink RX6 22 yX5_put, Cond.instanceMethod yX5_put, Cond.selects RX5 yX5_put yX5_put, Cond.initialized RX5, Cond.code yX5_put cX5_put 5 none, Cond.fieldLink RX5 7 "AerialSurvey$Strip" "row" "I", Cond.fieldLink RX5 13 "AerialSurvey$Strip" "first" "I", Cond.fieldLink RX5 16 "AerialSurvey$Strip" "last" "I", Cond.fieldLink RX5 19 "AerialSurvey$Strip" "spacing" "I", Cond.methodLink RX3 29 yX6_photoTotal]
def wsX8_planPhotoSpacing_r3 : List Cond := [Cond.instanceMethod yX6_photoTotal, Cond.selects RX6 yX6_photoTotal yX6_photoTotal, Cond.code yX6_photoTotal cX6_photoTotal 3 (some .int), Cond.methodLink RX6 61 yX5_photos, Cond.instanceMethod yX5_photos, Cond.selects RX5 yX5_photos yX5_photos, Cond.code yX5_photos cX5_photos 1 (some .int), Cond.methodLink RX3 36 yX6_leavesGap, Cond.instanceMethod yX6_leavesGap, Cond.selects RX6 yX6_leavesGap yX6_leavesGap, Cond.code yX6_leavesGap cX6_leavesGap 6 (some .boolean), Cond.methodLink RX6 75 yX6_views, Cond.instanceMethod yX6_views, Cond.selects RX6 yX6_views yX6_views, Cond.code yX6_views cX6_views 11 (some .int), Cond.fieldLink RX6 30 "AerialSurvey$Strip" "row" "I", Cond.methodLink RX6 65 yX5_columnOf, Cond.instanceMethod yX5_columnOf, Cond.selects RX5 yX5_columnOf yX5_columnOf, Cond.code yX5_columnOf cX5_columnOf 2 (some .int), Cond.methodLink RX6 69 yX1_sees, Cond.instanceMethod yX1_sees, Cond.selects RX1 yX1_sees yX1_sees, Cond.initialized RX1]
def wsX8_planPhotoSpacing_r4 : List Cond := [Cond.code yX1_sees cX1_sees 9 (some .boolean), Cond.fieldLink RX1 7 "AerialSurvey$Camera" "altitude" "I", Cond.fieldLink RX1 19 "AerialSurvey$Camera" "crab" "I", Cond.methodLink RX1 28 Lib.Math.abs.name, Cond.static Lib.Math.abs.name, Cond.initialized "java/lang/Math", Cond.code Lib.Math.abs.name Lib.Math.abs.code 1 (some .int), Cond.fieldLink RX1 13 "AerialSurvey$Camera" "alongField" "I", Cond.fieldLink RX1 16 "AerialSurvey$Camera" "acrossField" "I", Cond.methodLink RX1 22 yX7_heightAt, Cond.instanceMethod yX7_heightAt, Cond.selects RX7 yX7_heightAt yX7_heightAt, Cond.initialized RX7, Cond.code yX7_heightAt cX7_heightAt 4 (some .int), Cond.fieldLink RX7 18 "AerialSurvey$Terrain" "heights" "[I", Cond.methodLink RX1 34 yX1_isLineFree, Cond.instanceMethod yX1_isLineFree, Cond.selects RX1 yX1_isLineFree yX1_isLineFree, Cond.code yX1_isLineFree cX1_isLineFree 14 (some .boolean), Cond.methodLink RX1 38 Lib.Math.max.name, Cond.static Lib.Math.max.name, Cond.code Lib.Math.max.name Lib.Math.max.code 2 (some .int), Cond.methodLink RX1 41 yJ9_floorDiv_7cf53, Cond.static yJ9_floorDiv_7cf53]
def wsX8_planPhotoSpacing_r5 : List Cond := [Cond.initialized RJ9, Cond.code yJ9_floorDiv_7cf53 cJ9_floorDiv_7cf53 3 (some .int)]
def wsX8_planPhotoSpacing : List Cond := .code yX8_planPhotoSpacing cX8_planPhotoSpacing 2 (some .int) :: ((wsX8_planPhotoSpacing_r1 ++ (wsX8_planPhotoSpacing_r2 ++ (wsX8_planPhotoSpacing_r3 ++ (wsX8_planPhotoSpacing_r4 ++ wsX8_planPhotoSpacing_r5)))) ++ wsX80 ++ wsX30 ++ wsX70 ++ wsX60 ++ wsX50 ++ wsX10)
def wsX8_applyPlan_r1 : List Cond := [Cond.fieldLink RX8 47 "AerialSurvey" "planner" "LAerialSurvey$Planner;", Cond.fieldLink RX8 10 "AerialSurvey" "terrain" "LAerialSurvey$Terrain;", Cond.fieldLink RX8 19 "AerialSurvey" "camera" "LAerialSurvey$Camera;", Cond.fieldLink RX8 33 "AerialSurvey" "strips" "LAerialSurvey$StripList;", Cond.fieldLink RX8 172 "AerialSurvey$Planner" "rowSpacing" "I", Cond.fieldLink RX8 175 "AerialSurvey$Planner" "photoSpacing" "I", Cond.fieldLink RX8 118 "AerialSurvey$StripList" "count" "I", Cond.methodLink RX8 58 yX8_isWithin, Cond.static yX8_isWithin, Cond.initialized RX8, Cond.code yX8_isWithin cX8_isWithin 3 (some .boolean), Cond.methodLink RX8 166 yX3_search, Cond.instanceMethod yX3_search, Cond.selects RX3 yX3_search yX3_search, Cond.initialized RX3, Cond.code yX3_search cX3_search 7 (some .boolean), Cond.fieldLink RX3 16 "AerialSurvey$Terrain" "rows" "I", Cond.fieldLink RX3 22 "AerialSurvey$Terrain" "columns" "I", Cond.fieldLink RX3 10 "AerialSurvey$Planner" "trial" "LAerialSurvey$StripList;", Cond.fieldLink RX3 33 "AerialSurvey$Planner" "photos" "I", Cond.fieldLink RX3 40 "AerialSurvey$Planner" "rowSpacing" "I", Cond.fieldLink RX3 43 "AerialSurvey$Planner" "photoSpacing" "I", Cond.methodLink RX3 25 yX6_layOut, Cond.instanceMethod yX6_layOut]
def wsX8_applyPlan_r2 : List Cond := [Cond.selects RX6 yX6_layOut yX6_layOut, Cond.initialized RX6, Cond.code yX6_layOut cX6_layOut 7 (some .boolean), Cond.fieldLink RX6 42 "AerialSurvey$Terrain" "rows" "I", Cond.fieldLink RX6 11 "AerialSurvey$StripList" "strips" "[LAerialSurvey$Strip;", Cond.fieldLink RX6 54 "AerialSurvey$Terrain" "columns" "I", Cond.static yX8_quotient, Cond.code yX8_quotient cX8_quotient 2 (some .int), Cond.methodLink RX6 51 yX6_clear, Cond.instanceMethod yX6_clear, Cond.selects RX6 yX6_clear yX6_clear, Cond.code yX6_clear cX6_clear 1 none, Cond.fieldLink RX6 18 "AerialSurvey$StripList" "count" "I", Cond.methodLink RX6 57 yX6_add, Cond.instanceMethod yX6_add, Cond.selects RX6 yX6_add yX6_add, Cond.code yX6_add cX6_add 5 (some .int), Cond.methodLink RX6 22 yX5_put, Cond.instanceMethod yX5_put, Cond.selects RX5 yX5_put yX5_put, Cond.initialized RX5, Cond.code yX5_put cX5_put 5 none, Cond.fieldLink RX5 7 "AerialSurvey$Strip" "row" "I", Cond.fieldLink RX5 13 "AerialSurvey$Strip" "first" "I"]
def wsX8_applyPlan_r3 : List Cond := [Cond.fieldLink RX5 16 "AerialSurvey$Strip" "last" "I", Cond.fieldLink RX5 19 "AerialSurvey$Strip" "spacing" "I", Cond.methodLink RX3 29 yX6_photoTotal, Cond.instanceMethod yX6_photoTotal, Cond.selects RX6 yX6_photoTotal yX6_photoTotal, Cond.code yX6_photoTotal cX6_photoTotal 3 (some .int), Cond.methodLink RX6 61 yX5_photos, Cond.instanceMethod yX5_photos, Cond.selects RX5 yX5_photos yX5_photos, Cond.code yX5_photos cX5_photos 1 (some .int), Cond.methodLink RX3 36 yX6_leavesGap, Cond.instanceMethod yX6_leavesGap, Cond.selects RX6 yX6_leavesGap yX6_leavesGap, Cond.code yX6_leavesGap cX6_leavesGap 6 (some .boolean), Cond.methodLink RX6 75 yX6_views, Cond.instanceMethod yX6_views, Cond.selects RX6 yX6_views yX6_views, Cond.code yX6_views cX6_views 11 (some .int), Cond.fieldLink RX6 30 "AerialSurvey$Strip" "row" "I", Cond.methodLink RX6 65 yX5_columnOf, Cond.instanceMethod yX5_columnOf, Cond.selects RX5 yX5_columnOf yX5_columnOf, Cond.code yX5_columnOf cX5_columnOf 2 (some .int), Cond.methodLink RX6 69 yX1_sees]
def wsX8_applyPlan_r4 : List Cond := [Cond.instanceMethod yX1_sees, Cond.selects RX1 yX1_sees yX1_sees, Cond.initialized RX1, Cond.code yX1_sees cX1_sees 9 (some .boolean), Cond.fieldLink RX1 7 "AerialSurvey$Camera" "altitude" "I", Cond.fieldLink RX1 19 "AerialSurvey$Camera" "crab" "I", Cond.methodLink RX1 28 Lib.Math.abs.name, Cond.static Lib.Math.abs.name, Cond.initialized "java/lang/Math", Cond.code Lib.Math.abs.name Lib.Math.abs.code 1 (some .int), Cond.fieldLink RX1 13 "AerialSurvey$Camera" "alongField" "I", Cond.fieldLink RX1 16 "AerialSurvey$Camera" "acrossField" "I", Cond.methodLink RX1 22 yX7_heightAt, Cond.instanceMethod yX7_heightAt, Cond.selects RX7 yX7_heightAt yX7_heightAt, Cond.initialized RX7, Cond.code yX7_heightAt cX7_heightAt 4 (some .int), Cond.fieldLink RX7 18 "AerialSurvey$Terrain" "heights" "[I", Cond.methodLink RX1 34 yX1_isLineFree, Cond.instanceMethod yX1_isLineFree, Cond.selects RX1 yX1_isLineFree yX1_isLineFree, Cond.code yX1_isLineFree cX1_isLineFree 14 (some .boolean), Cond.methodLink RX1 38 Lib.Math.max.name, Cond.static Lib.Math.max.name]
def wsX8_applyPlan_r5 : List Cond := [Cond.code Lib.Math.max.name Lib.Math.max.code 2 (some .int), Cond.methodLink RX1 41 yJ9_floorDiv_7cf53, Cond.static yJ9_floorDiv_7cf53, Cond.initialized RJ9, Cond.code yJ9_floorDiv_7cf53 cJ9_floorDiv_7cf53 3 (some .int), Cond.methodLink RX8 178 yX6_layOut]
def wsX8_applyPlan : List Cond := .code yX8_applyPlan cX8_applyPlan 2 (some .int) :: ((wsX8_applyPlan_r1 ++ (wsX8_applyPlan_r2 ++ (wsX8_applyPlan_r3 ++ (wsX8_applyPlan_r4 ++ wsX8_applyPlan_r5)))) ++ wsX80 ++ wsX30 ++ wsX60 ++ wsX70 ++ wsX50 ++ wsX10)
def wsX8_stripTime : List Cond := .code yX8_stripTime cX8_stripTime 4 (some .int) :: ([.fieldLink RX8 33 "AerialSurvey" "strips" "LAerialSurvey$StripList;", .fieldLink RX8 26 "AerialSurvey" "aircraft" "LAerialSurvey$Aircraft;", .methodLink RX8 110 yX6_find, .instanceMethod yX6_find, .selects RX6 yX6_find yX6_find, .initialized RX6, .code yX6_find cX6_find 2 (some (.object "AerialSurvey$Strip")), .fieldLink RX6 18 "AerialSurvey$StripList" "count" "I", .fieldLink RX6 11 "AerialSurvey$StripList" "strips" "[LAerialSurvey$Strip;", .methodLink RX8 182 yX0_flightTime, .instanceMethod yX0_flightTime, .selects RX0 yX0_flightTime yX0_flightTime, .initialized RX0, .code yX0_flightTime cX0_flightTime 4 (some .int), .fieldLink RX0 7 "AerialSurvey$Aircraft" "airspeed" "I", .fieldLink RX0 13 "AerialSurvey$Aircraft" "tailwind" "I", .fieldLink RX0 19 "AerialSurvey$Strip" "last" "I", .fieldLink RX0 24 "AerialSurvey$Strip" "first" "I", .static yX8_quotient, .initialized RX8, .code yX8_quotient cX8_quotient 2 (some .int)] ++ wsX80 ++ wsX60 ++ wsX00 ++ wsX50)
def wsX8_routeTime_r1 : List Cond := [Cond.fieldLink RX8 10 "AerialSurvey" "terrain" "LAerialSurvey$Terrain;", Cond.fieldLink RX8 54 "AerialSurvey" "router" "LAerialSurvey$Router;", Cond.fieldLink RX8 33 "AerialSurvey" "strips" "LAerialSurvey$StripList;", Cond.fieldLink RX8 26 "AerialSurvey" "aircraft" "LAerialSurvey$Aircraft;", Cond.methodLink RX8 69 yX7_contains, Cond.instanceMethod yX7_contains, Cond.selects RX7 yX7_contains yX7_contains, Cond.initialized RX7, Cond.code yX7_contains cX7_contains 3 (some .boolean), Cond.fieldLink RX7 9 "AerialSurvey$Terrain" "rows" "I", Cond.fieldLink RX7 15 "AerialSurvey$Terrain" "columns" "I", Cond.methodLink RX8 186 yX4_fastestTime, Cond.instanceMethod yX4_fastestTime, Cond.selects RX4 yX4_fastestTime yX4_fastestTime, Cond.initialized RX4, Cond.code yX4_fastestTime cX4_fastestTime 5 (some .int), Cond.fieldLink RX4 19 "AerialSurvey$StripList" "count" "I", Cond.fieldLink RX4 29 "AerialSurvey$Router" "chosenTime" "I", Cond.methodLink RX4 15 yX4_fillTimes, Cond.instanceMethod yX4_fillTimes, Cond.selects RX4 yX4_fillTimes yX4_fillTimes, Cond.code yX4_fillTimes cX4_fillTimes 7 none, Cond.fieldLink RX4 49 "AerialSurvey$Strip" "row" "I", Cond.fieldLink RX4 11 "AerialSurvey$Router" "timeLeft" "[I"]
def wsX8_routeTime_r2 : List Cond := [Cond.methodLink RX4 35 yX6_find, Cond.instanceMethod yX6_find, Cond.selects RX6 yX6_find yX6_find, Cond.initialized RX6, Cond.code yX6_find cX6_find 2 (some (.object "AerialSurvey$Strip")), Cond.fieldLink RX6 18 "AerialSurvey$StripList" "count" "I", Cond.fieldLink RX6 11 "AerialSurvey$StripList" "strips" "[LAerialSurvey$Strip;", Cond.methodLink RX4 52 yX4_isIn, Cond.static yX4_isIn, Cond.code yX4_isIn cX4_isIn 2 (some .boolean), Cond.methodLink RX4 39 yX4_isEastbound, Cond.static yX4_isEastbound, Cond.code yX4_isEastbound cX4_isEastbound 1 (some .boolean), Cond.methodLink RX4 43 yX5_exitColumn, Cond.instanceMethod yX5_exitColumn, Cond.selects RX5 yX5_exitColumn yX5_exitColumn, Cond.initialized RX5, Cond.code yX5_exitColumn cX5_exitColumn 2 (some .int), Cond.fieldLink RX5 16 "AerialSurvey$Strip" "last" "I", Cond.fieldLink RX5 13 "AerialSurvey$Strip" "first" "I", Cond.methodLink RX4 25 yX4_choose, Cond.instanceMethod yX4_choose, Cond.selects RX4 yX4_choose yX4_choose, Cond.code yX4_choose cX4_choose 11 none]
def wsX8_routeTime_r3 : List Cond := [Cond.fieldLink RX4 32 "AerialSurvey$Router" "chosenStep" "I", Cond.methodLink RX4 56 yX0_transferTime, Cond.instanceMethod yX0_transferTime, Cond.selects RX0 yX0_transferTime yX0_transferTime, Cond.initialized RX0, Cond.code yX0_transferTime cX0_transferTime 6 (some .int), Cond.fieldLink RX0 33 "AerialSurvey$Strip" "row" "I", Cond.methodLink RX0 36 Lib.Math.abs.name, Cond.static Lib.Math.abs.name, Cond.initialized "java/lang/Math", Cond.code Lib.Math.abs.name Lib.Math.abs.code 1 (some .int), Cond.fieldLink RX0 7 "AerialSurvey$Aircraft" "airspeed" "I", Cond.fieldLink RX0 16 "AerialSurvey$Aircraft" "turnTime" "I", Cond.methodLink RX0 42 yX5_entryColumn, Cond.instanceMethod yX5_entryColumn, Cond.selects RX5 yX5_entryColumn yX5_entryColumn, Cond.code yX5_entryColumn cX5_entryColumn 2 (some .int), Cond.static yX8_quotient, Cond.initialized RX8, Cond.code yX8_quotient cX8_quotient 2 (some .int), Cond.methodLink RX4 62 yX0_flightTime, Cond.instanceMethod yX0_flightTime, Cond.selects RX0 yX0_flightTime yX0_flightTime, Cond.code yX0_flightTime cX0_flightTime 4 (some .int)]
def wsX8_routeTime_r4 : List Cond := [Cond.fieldLink RX0 13 "AerialSurvey$Aircraft" "tailwind" "I", Cond.fieldLink RX0 19 "AerialSurvey$Strip" "last" "I", Cond.fieldLink RX0 24 "AerialSurvey$Strip" "first" "I"]
def wsX8_routeTime : List Cond := .code yX8_routeTime cX8_routeTime 3 (some .int) :: ((wsX8_routeTime_r1 ++ (wsX8_routeTime_r2 ++ (wsX8_routeTime_r3 ++ wsX8_routeTime_r4))) ++ wsX80 ++ wsX70 ++ wsX60 ++ wsX40 ++ wsX50 ++ wsX00)
def wsX8_routeStep_r1 : List Cond := [Cond.fieldLink RX8 10 "AerialSurvey" "terrain" "LAerialSurvey$Terrain;", Cond.fieldLink RX8 33 "AerialSurvey" "strips" "LAerialSurvey$StripList;", Cond.fieldLink RX8 118 "AerialSurvey$StripList" "count" "I", Cond.fieldLink RX8 54 "AerialSurvey" "router" "LAerialSurvey$Router;", Cond.fieldLink RX8 26 "AerialSurvey" "aircraft" "LAerialSurvey$Aircraft;", Cond.methodLink RX8 69 yX7_contains, Cond.instanceMethod yX7_contains, Cond.selects RX7 yX7_contains yX7_contains, Cond.initialized RX7, Cond.code yX7_contains cX7_contains 3 (some .boolean), Cond.fieldLink RX7 9 "AerialSurvey$Terrain" "rows" "I", Cond.fieldLink RX7 15 "AerialSurvey$Terrain" "columns" "I", Cond.methodLink RX8 190 yX4_fastestStep, Cond.instanceMethod yX4_fastestStep, Cond.selects RX4 yX4_fastestStep yX4_fastestStep, Cond.initialized RX4, Cond.code yX4_fastestStep cX4_fastestStep 10 (some .int), Cond.fieldLink RX4 19 "AerialSurvey$StripList" "count" "I", Cond.fieldLink RX4 32 "AerialSurvey$Router" "chosenStep" "I", Cond.fieldLink RX4 49 "AerialSurvey$Strip" "row" "I", Cond.methodLink RX4 15 yX4_fillTimes, Cond.instanceMethod yX4_fillTimes, Cond.selects RX4 yX4_fillTimes yX4_fillTimes, Cond.code yX4_fillTimes cX4_fillTimes 7 none]
def wsX8_routeStep_r2 : List Cond := [Cond.fieldLink RX4 11 "AerialSurvey$Router" "timeLeft" "[I", Cond.fieldLink RX4 29 "AerialSurvey$Router" "chosenTime" "I", Cond.methodLink RX4 35 yX6_find, Cond.instanceMethod yX6_find, Cond.selects RX6 yX6_find yX6_find, Cond.initialized RX6, Cond.code yX6_find cX6_find 2 (some (.object "AerialSurvey$Strip")), Cond.fieldLink RX6 18 "AerialSurvey$StripList" "count" "I", Cond.fieldLink RX6 11 "AerialSurvey$StripList" "strips" "[LAerialSurvey$Strip;", Cond.methodLink RX4 52 yX4_isIn, Cond.static yX4_isIn, Cond.code yX4_isIn cX4_isIn 2 (some .boolean), Cond.methodLink RX4 39 yX4_isEastbound, Cond.static yX4_isEastbound, Cond.code yX4_isEastbound cX4_isEastbound 1 (some .boolean), Cond.methodLink RX4 43 yX5_exitColumn, Cond.instanceMethod yX5_exitColumn, Cond.selects RX5 yX5_exitColumn yX5_exitColumn, Cond.initialized RX5, Cond.code yX5_exitColumn cX5_exitColumn 2 (some .int), Cond.fieldLink RX5 16 "AerialSurvey$Strip" "last" "I", Cond.fieldLink RX5 13 "AerialSurvey$Strip" "first" "I", Cond.methodLink RX4 25 yX4_choose, Cond.instanceMethod yX4_choose]
def wsX8_routeStep_r3 : List Cond := [Cond.selects RX4 yX4_choose yX4_choose, Cond.code yX4_choose cX4_choose 11 none, Cond.methodLink RX4 56 yX0_transferTime, Cond.instanceMethod yX0_transferTime, Cond.selects RX0 yX0_transferTime yX0_transferTime, Cond.initialized RX0, Cond.code yX0_transferTime cX0_transferTime 6 (some .int), Cond.fieldLink RX0 33 "AerialSurvey$Strip" "row" "I", Cond.methodLink RX0 36 Lib.Math.abs.name, Cond.static Lib.Math.abs.name, Cond.initialized "java/lang/Math", Cond.code Lib.Math.abs.name Lib.Math.abs.code 1 (some .int), Cond.fieldLink RX0 7 "AerialSurvey$Aircraft" "airspeed" "I", Cond.fieldLink RX0 16 "AerialSurvey$Aircraft" "turnTime" "I", Cond.methodLink RX0 42 yX5_entryColumn, Cond.instanceMethod yX5_entryColumn, Cond.selects RX5 yX5_entryColumn yX5_entryColumn, Cond.code yX5_entryColumn cX5_entryColumn 2 (some .int), Cond.static yX8_quotient, Cond.initialized RX8, Cond.code yX8_quotient cX8_quotient 2 (some .int), Cond.methodLink RX4 62 yX0_flightTime, Cond.instanceMethod yX0_flightTime, Cond.selects RX0 yX0_flightTime yX0_flightTime]
def wsX8_routeStep_r4 : List Cond := [Cond.code yX0_flightTime cX0_flightTime 4 (some .int), Cond.fieldLink RX0 13 "AerialSurvey$Aircraft" "tailwind" "I", Cond.fieldLink RX0 19 "AerialSurvey$Strip" "last" "I", Cond.fieldLink RX0 24 "AerialSurvey$Strip" "first" "I"]
def wsX8_routeStep : List Cond := .code yX8_routeStep cX8_routeStep 4 (some .int) :: ((wsX8_routeStep_r1 ++ (wsX8_routeStep_r2 ++ (wsX8_routeStep_r3 ++ wsX8_routeStep_r4))) ++ wsX80 ++ wsX60 ++ wsX70 ++ wsX40 ++ wsX50 ++ wsX00)
def wsX9_init : List Cond := .code yX9_init cX9_init 1 none :: ([.methodLink RX9 1 objectInit, .instanceMethod objectInit, .code objectInit ⟨#[0xb1]⟩ 1 none, .fieldLink RX9 7 "AerialSurveyModel" "altitude" "I", .fieldLink RX9 13 "AerialSurveyModel" "along" "I", .fieldLink RX9 16 "AerialSurveyModel" "across" "I", .fieldLink RX9 19 "AerialSurveyModel" "airspeedNow" "I", .fieldLink RX9 22 "AerialSurveyModel" "turnNow" "I", .arrayClass .int, .fieldLink RX9 25 "AerialSurveyModel" "ground" "[I", .fieldLink RX9 29 "AerialSurveyModel" "rowOf" "[I", .fieldLink RX9 32 "AerialSurveyModel" "firstOf" "[I", .fieldLink RX9 35 "AerialSurveyModel" "lastOf" "[I", .fieldLink RX9 38 "AerialSurveyModel" "spacingOf" "[I", .arrayClass .boolean, .fieldLink RX9 41 "AerialSurveyModel" "seenFrom" "[Z", .fieldLink RX9 45 "AerialSurveyModel" "rest" "[I", .fieldLink RX9 48 "AerialSurveyModel" "rows" "I", .fieldLink RX9 51 "AerialSurveyModel" "columns" "I"] ++ wsX90)
def wsX9_isBetween : List Cond := .code yX9_isBetween cX9_isBetween 3 (some .boolean) :: ([])
def wsX9_size : List Cond := .code yX9_size cX9_size 1 (some .int) :: ([])
def wsX9_isCell : List Cond := .code yX9_isCell cX9_isCell 3 (some .boolean) :: ([.fieldLink RX9 48 "AerialSurveyModel" "rows" "I", .fieldLink RX9 51 "AerialSurveyModel" "columns" "I", .methodLink RX9 54 yX9_isBetween, .static yX9_isBetween, .initialized RX9, .code yX9_isBetween cX9_isBetween 3 (some .boolean)] ++ wsX90)
def wsX9_resize : List Cond := .code yX9_resize cX9_resize 4 (some .int) :: ([.fieldLink RX9 48 "AerialSurveyModel" "rows" "I", .fieldLink RX9 51 "AerialSurveyModel" "columns" "I", .fieldLink RX9 58 "AerialSurveyModel" "strips" "I", .fieldLink RX9 25 "AerialSurveyModel" "ground" "[I", .methodLink RX9 54 yX9_isBetween, .static yX9_isBetween, .initialized RX9, .code yX9_isBetween cX9_isBetween 3 (some .boolean)] ++ wsX90)
def wsX9_setHeight : List Cond := .code yX9_setHeight cX9_setHeight 5 (some .int) :: ([.fieldLink RX9 25 "AerialSurveyModel" "ground" "[I", .methodLink RX9 61 yX9_isCell, .instanceMethod yX9_isCell, .selects RX9 yX9_isCell yX9_isCell, .initialized RX9, .code yX9_isCell cX9_isCell 3 (some .boolean), .fieldLink RX9 48 "AerialSurveyModel" "rows" "I", .fieldLink RX9 51 "AerialSurveyModel" "columns" "I", .methodLink RX9 54 yX9_isBetween, .static yX9_isBetween, .code yX9_isBetween cX9_isBetween 3 (some .boolean)] ++ wsX90)
def wsX9_raiseHill : List Cond := .code yX9_raiseHill cX9_raiseHill 10 (some .int) :: ([.fieldLink RX9 48 "AerialSurveyModel" "rows" "I", .fieldLink RX9 51 "AerialSurveyModel" "columns" "I", .fieldLink RX9 25 "AerialSurveyModel" "ground" "[I", .methodLink RX9 61 yX9_isCell, .instanceMethod yX9_isCell, .selects RX9 yX9_isCell yX9_isCell, .initialized RX9, .code yX9_isCell cX9_isCell 3 (some .boolean), .methodLink RX9 54 yX9_isBetween, .static yX9_isBetween, .code yX9_isBetween cX9_isBetween 3 (some .boolean), .methodLink RX9 65 yX9_size, .static yX9_size, .code yX9_size cX9_size 1 (some .int)] ++ wsX90)
def wsX9_height : List Cond := .code yX9_height cX9_height 3 (some .int) :: ([.fieldLink RX9 25 "AerialSurveyModel" "ground" "[I", .methodLink RX9 61 yX9_isCell, .instanceMethod yX9_isCell, .selects RX9 yX9_isCell yX9_isCell, .initialized RX9, .code yX9_isCell cX9_isCell 3 (some .boolean), .fieldLink RX9 48 "AerialSurveyModel" "rows" "I", .fieldLink RX9 51 "AerialSurveyModel" "columns" "I", .methodLink RX9 54 yX9_isBetween, .static yX9_isBetween, .code yX9_isBetween cX9_isBetween 3 (some .boolean)] ++ wsX90)
def wsX9_setAltitude : List Cond := .code yX9_setAltitude cX9_setAltitude 3 (some .int) :: ([.fieldLink RX9 7 "AerialSurveyModel" "altitude" "I", .methodLink RX9 54 yX9_isBetween, .static yX9_isBetween, .initialized RX9, .code yX9_isBetween cX9_isBetween 3 (some .boolean)] ++ wsX90)
def wsX9_setFields : List Cond := .code yX9_setFields cX9_setFields 4 (some .int) :: ([.fieldLink RX9 13 "AerialSurveyModel" "along" "I", .fieldLink RX9 16 "AerialSurveyModel" "across" "I", .methodLink RX9 54 yX9_isBetween, .static yX9_isBetween, .initialized RX9, .code yX9_isBetween cX9_isBetween 3 (some .boolean)] ++ wsX90)
def wsX9_setCrab : List Cond := .code yX9_setCrab cX9_setCrab 3 (some .int) :: ([.fieldLink RX9 69 "AerialSurveyModel" "crabNow" "I", .methodLink RX9 54 yX9_isBetween, .static yX9_isBetween, .initialized RX9, .code yX9_isBetween cX9_isBetween 3 (some .boolean)] ++ wsX90)
def wsX9_setSpeed : List Cond := .code yX9_setSpeed cX9_setSpeed 5 (some .int) :: ([.fieldLink RX9 19 "AerialSurveyModel" "airspeedNow" "I", .fieldLink RX9 72 "AerialSurveyModel" "tailwindNow" "I", .fieldLink RX9 22 "AerialSurveyModel" "turnNow" "I", .methodLink RX9 54 yX9_isBetween, .static yX9_isBetween, .initialized RX9, .code yX9_isBetween cX9_isBetween 3 (some .boolean)] ++ wsX90)
def wsX9_isStrip : List Cond := .code yX9_isStrip cX9_isStrip 2 (some .boolean) :: ([.fieldLink RX9 58 "AerialSurveyModel" "strips" "I", .methodLink RX9 54 yX9_isBetween, .static yX9_isBetween, .initialized RX9, .code yX9_isBetween cX9_isBetween 3 (some .boolean)] ++ wsX90)
def wsX9_put : List Cond := .code yX9_put cX9_put 5 none :: ([.fieldLink RX9 29 "AerialSurveyModel" "rowOf" "[I", .fieldLink RX9 58 "AerialSurveyModel" "strips" "I", .fieldLink RX9 32 "AerialSurveyModel" "firstOf" "[I", .fieldLink RX9 35 "AerialSurveyModel" "lastOf" "[I", .fieldLink RX9 38 "AerialSurveyModel" "spacingOf" "[I"] ++ wsX90)
def wsX9_addStrip : List Cond := .code yX9_addStrip cX9_addStrip 5 (some .int) :: ([.fieldLink RX9 58 "AerialSurveyModel" "strips" "I", .methodLink RX9 61 yX9_isCell, .instanceMethod yX9_isCell, .selects RX9 yX9_isCell yX9_isCell, .initialized RX9, .code yX9_isCell cX9_isCell 3 (some .boolean), .fieldLink RX9 48 "AerialSurveyModel" "rows" "I", .fieldLink RX9 51 "AerialSurveyModel" "columns" "I", .methodLink RX9 54 yX9_isBetween, .static yX9_isBetween, .code yX9_isBetween cX9_isBetween 3 (some .boolean), .methodLink RX9 75 yX9_put, .instanceMethod yX9_put, .selects RX9 yX9_put yX9_put, .code yX9_put cX9_put 5 none, .fieldLink RX9 29 "AerialSurveyModel" "rowOf" "[I", .fieldLink RX9 32 "AerialSurveyModel" "firstOf" "[I", .fieldLink RX9 35 "AerialSurveyModel" "lastOf" "[I", .fieldLink RX9 38 "AerialSurveyModel" "spacingOf" "[I"] ++ wsX90)
def wsX9_removeStrip : List Cond := .code yX9_removeStrip cX9_removeStrip 3 (some .int) :: ([.fieldLink RX9 58 "AerialSurveyModel" "strips" "I", .fieldLink RX9 29 "AerialSurveyModel" "rowOf" "[I", .fieldLink RX9 32 "AerialSurveyModel" "firstOf" "[I", .fieldLink RX9 35 "AerialSurveyModel" "lastOf" "[I", .fieldLink RX9 38 "AerialSurveyModel" "spacingOf" "[I", .methodLink RX9 79 yX9_isStrip, .instanceMethod yX9_isStrip, .selects RX9 yX9_isStrip yX9_isStrip, .initialized RX9, .code yX9_isStrip cX9_isStrip 2 (some .boolean), .methodLink RX9 54 yX9_isBetween, .static yX9_isBetween, .code yX9_isBetween cX9_isBetween 3 (some .boolean)] ++ wsX90)
def wsX9_stripCount : List Cond := .code yX9_stripCount cX9_stripCount 1 (some .int) :: ([.fieldLink RX9 58 "AerialSurveyModel" "strips" "I"] ++ wsX90)
def wsX9_photosOf : List Cond := .code yX9_photosOf cX9_photosOf 2 (some .int) :: ([.fieldLink RX9 35 "AerialSurveyModel" "lastOf" "[I", .fieldLink RX9 32 "AerialSurveyModel" "firstOf" "[I", .fieldLink RX9 38 "AerialSurveyModel" "spacingOf" "[I"] ++ wsX90)
def wsX9_columnOf : List Cond := .code yX9_columnOf cX9_columnOf 3 (some .int) :: ([.fieldLink RX9 32 "AerialSurveyModel" "firstOf" "[I", .fieldLink RX9 38 "AerialSurveyModel" "spacingOf" "[I"] ++ wsX90)
def wsX9_checkPhoto : List Cond := .code yX9_checkPhoto cX9_checkPhoto 3 (some .int) :: ([.methodLink RX9 79 yX9_isStrip, .instanceMethod yX9_isStrip, .selects RX9 yX9_isStrip yX9_isStrip, .initialized RX9, .code yX9_isStrip cX9_isStrip 2 (some .boolean), .fieldLink RX9 58 "AerialSurveyModel" "strips" "I", .methodLink RX9 54 yX9_isBetween, .static yX9_isBetween, .code yX9_isBetween cX9_isBetween 3 (some .boolean), .methodLink RX9 83 yX9_photosOf, .instanceMethod yX9_photosOf, .selects RX9 yX9_photosOf yX9_photosOf, .code yX9_photosOf cX9_photosOf 2 (some .int), .fieldLink RX9 35 "AerialSurveyModel" "lastOf" "[I", .fieldLink RX9 32 "AerialSurveyModel" "firstOf" "[I", .fieldLink RX9 38 "AerialSurveyModel" "spacingOf" "[I"] ++ wsX90)
def wsX9_photoCount : List Cond := .code yX9_photoCount cX9_photoCount 2 (some .int) :: ([.methodLink RX9 79 yX9_isStrip, .instanceMethod yX9_isStrip, .selects RX9 yX9_isStrip yX9_isStrip, .initialized RX9, .code yX9_isStrip cX9_isStrip 2 (some .boolean), .fieldLink RX9 58 "AerialSurveyModel" "strips" "I", .methodLink RX9 54 yX9_isBetween, .static yX9_isBetween, .code yX9_isBetween cX9_isBetween 3 (some .boolean), .methodLink RX9 83 yX9_photosOf, .instanceMethod yX9_photosOf, .selects RX9 yX9_photosOf yX9_photosOf, .code yX9_photosOf cX9_photosOf 2 (some .int), .fieldLink RX9 35 "AerialSurveyModel" "lastOf" "[I", .fieldLink RX9 32 "AerialSurveyModel" "firstOf" "[I", .fieldLink RX9 38 "AerialSurveyModel" "spacingOf" "[I"] ++ wsX90)
def wsX9_photoColumn : List Cond := .code yX9_photoColumn cX9_photoColumn 4 (some .int) :: ([.methodLink RX9 86 yX9_checkPhoto, .instanceMethod yX9_checkPhoto, .selects RX9 yX9_checkPhoto yX9_checkPhoto, .initialized RX9, .code yX9_checkPhoto cX9_checkPhoto 3 (some .int), .methodLink RX9 79 yX9_isStrip, .instanceMethod yX9_isStrip, .selects RX9 yX9_isStrip yX9_isStrip, .code yX9_isStrip cX9_isStrip 2 (some .boolean), .fieldLink RX9 58 "AerialSurveyModel" "strips" "I", .methodLink RX9 54 yX9_isBetween, .static yX9_isBetween, .code yX9_isBetween cX9_isBetween 3 (some .boolean), .methodLink RX9 83 yX9_photosOf, .instanceMethod yX9_photosOf, .selects RX9 yX9_photosOf yX9_photosOf, .code yX9_photosOf cX9_photosOf 2 (some .int), .fieldLink RX9 35 "AerialSurveyModel" "lastOf" "[I", .fieldLink RX9 32 "AerialSurveyModel" "firstOf" "[I", .fieldLink RX9 38 "AerialSurveyModel" "spacingOf" "[I", .methodLink RX9 90 yX9_columnOf, .instanceMethod yX9_columnOf, .selects RX9 yX9_columnOf yX9_columnOf, .code yX9_columnOf cX9_columnOf 3 (some .int)] ++ wsX90)
def wsX9_nearest : List Cond := .code yX9_nearest cX9_nearest 5 (some .int) :: ([])
def wsX9_isBlocked : List Cond := .code yX9_isBlocked cX9_isBlocked 10 (some .boolean) :: ([.fieldLink RX9 25 "AerialSurveyModel" "ground" "[I", .fieldLink RX9 7 "AerialSurveyModel" "altitude" "I", .methodLink RX9 65 yX9_size, .static yX9_size, .initialized RX9, .code yX9_size cX9_size 1 (some .int), .methodLink RX9 93 yX9_nearest, .static yX9_nearest, .code yX9_nearest cX9_nearest 5 (some .int)] ++ wsX90)
def wsX9_sees : List Cond := .code yX9_sees cX9_sees 8 (some .boolean) :: ([.fieldLink RX9 25 "AerialSurveyModel" "ground" "[I", .fieldLink RX9 7 "AerialSurveyModel" "altitude" "I", .fieldLink RX9 69 "AerialSurveyModel" "crabNow" "I", .fieldLink RX9 13 "AerialSurveyModel" "along" "I", .fieldLink RX9 16 "AerialSurveyModel" "across" "I", .methodLink RX9 65 yX9_size, .static yX9_size, .initialized RX9, .code yX9_size cX9_size 1 (some .int), .methodLink RX9 96 yX9_isBlocked, .instanceMethod yX9_isBlocked, .selects RX9 yX9_isBlocked yX9_isBlocked, .code yX9_isBlocked cX9_isBlocked 10 (some .boolean), .methodLink RX9 93 yX9_nearest, .static yX9_nearest, .code yX9_nearest cX9_nearest 5 (some .int)] ++ wsX90)
def wsX9_photoSees_r1 : List Cond := [Cond.fieldLink RX9 29 "AerialSurveyModel" "rowOf" "[I", Cond.fieldLink RX9 51 "AerialSurveyModel" "columns" "I", Cond.methodLink RX9 90 yX9_columnOf, Cond.instanceMethod yX9_columnOf, Cond.selects RX9 yX9_columnOf yX9_columnOf, Cond.initialized RX9, Cond.code yX9_columnOf cX9_columnOf 3 (some .int), Cond.fieldLink RX9 32 "AerialSurveyModel" "firstOf" "[I", Cond.fieldLink RX9 38 "AerialSurveyModel" "spacingOf" "[I", Cond.methodLink RX9 100 yX9_sees, Cond.instanceMethod yX9_sees, Cond.selects RX9 yX9_sees yX9_sees, Cond.code yX9_sees cX9_sees 8 (some .boolean), Cond.fieldLink RX9 25 "AerialSurveyModel" "ground" "[I", Cond.fieldLink RX9 7 "AerialSurveyModel" "altitude" "I", Cond.fieldLink RX9 69 "AerialSurveyModel" "crabNow" "I", Cond.fieldLink RX9 13 "AerialSurveyModel" "along" "I", Cond.fieldLink RX9 16 "AerialSurveyModel" "across" "I", Cond.methodLink RX9 65 yX9_size, Cond.static yX9_size, Cond.code yX9_size cX9_size 1 (some .int), Cond.methodLink RX9 96 yX9_isBlocked, Cond.instanceMethod yX9_isBlocked, Cond.selects RX9 yX9_isBlocked yX9_isBlocked]
def wsX9_photoSees_r2 : List Cond := [Cond.code yX9_isBlocked cX9_isBlocked 10 (some .boolean), Cond.methodLink RX9 93 yX9_nearest, Cond.static yX9_nearest, Cond.code yX9_nearest cX9_nearest 5 (some .int)]
def wsX9_photoSees : List Cond := .code yX9_photoSees cX9_photoSees 4 (some .boolean) :: ((wsX9_photoSees_r1 ++ wsX9_photoSees_r2) ++ wsX90)
def wsX9_seesCell_r1 : List Cond := [Cond.fieldLink RX9 29 "AerialSurveyModel" "rowOf" "[I", Cond.methodLink RX9 86 yX9_checkPhoto, Cond.instanceMethod yX9_checkPhoto, Cond.selects RX9 yX9_checkPhoto yX9_checkPhoto, Cond.initialized RX9, Cond.code yX9_checkPhoto cX9_checkPhoto 3 (some .int), Cond.methodLink RX9 79 yX9_isStrip, Cond.instanceMethod yX9_isStrip, Cond.selects RX9 yX9_isStrip yX9_isStrip, Cond.code yX9_isStrip cX9_isStrip 2 (some .boolean), Cond.fieldLink RX9 58 "AerialSurveyModel" "strips" "I", Cond.methodLink RX9 54 yX9_isBetween, Cond.static yX9_isBetween, Cond.code yX9_isBetween cX9_isBetween 3 (some .boolean), Cond.methodLink RX9 83 yX9_photosOf, Cond.instanceMethod yX9_photosOf, Cond.selects RX9 yX9_photosOf yX9_photosOf, Cond.code yX9_photosOf cX9_photosOf 2 (some .int), Cond.fieldLink RX9 35 "AerialSurveyModel" "lastOf" "[I", Cond.fieldLink RX9 32 "AerialSurveyModel" "firstOf" "[I", Cond.fieldLink RX9 38 "AerialSurveyModel" "spacingOf" "[I", Cond.methodLink RX9 61 yX9_isCell, Cond.instanceMethod yX9_isCell, Cond.selects RX9 yX9_isCell yX9_isCell]
def wsX9_seesCell_r2 : List Cond := [Cond.code yX9_isCell cX9_isCell 3 (some .boolean), Cond.fieldLink RX9 48 "AerialSurveyModel" "rows" "I", Cond.fieldLink RX9 51 "AerialSurveyModel" "columns" "I", Cond.methodLink RX9 90 yX9_columnOf, Cond.instanceMethod yX9_columnOf, Cond.selects RX9 yX9_columnOf yX9_columnOf, Cond.code yX9_columnOf cX9_columnOf 3 (some .int), Cond.methodLink RX9 100 yX9_sees, Cond.instanceMethod yX9_sees, Cond.selects RX9 yX9_sees yX9_sees, Cond.code yX9_sees cX9_sees 8 (some .boolean), Cond.fieldLink RX9 25 "AerialSurveyModel" "ground" "[I", Cond.fieldLink RX9 7 "AerialSurveyModel" "altitude" "I", Cond.fieldLink RX9 69 "AerialSurveyModel" "crabNow" "I", Cond.fieldLink RX9 13 "AerialSurveyModel" "along" "I", Cond.fieldLink RX9 16 "AerialSurveyModel" "across" "I", Cond.methodLink RX9 65 yX9_size, Cond.static yX9_size, Cond.code yX9_size cX9_size 1 (some .int), Cond.methodLink RX9 96 yX9_isBlocked, Cond.instanceMethod yX9_isBlocked, Cond.selects RX9 yX9_isBlocked yX9_isBlocked, Cond.code yX9_isBlocked cX9_isBlocked 10 (some .boolean), Cond.methodLink RX9 93 yX9_nearest]
def wsX9_seesCell_r3 : List Cond := [Cond.static yX9_nearest, Cond.code yX9_nearest cX9_nearest 5 (some .int)]
def wsX9_seesCell : List Cond := .code yX9_seesCell cX9_seesCell 6 (some .int) :: ((wsX9_seesCell_r1 ++ (wsX9_seesCell_r2 ++ wsX9_seesCell_r3)) ++ wsX90)
def wsX9_footprint_r1 : List Cond := [Cond.fieldLink RX9 48 "AerialSurveyModel" "rows" "I", Cond.fieldLink RX9 51 "AerialSurveyModel" "columns" "I", Cond.methodLink RX9 104 yX9_photoSees, Cond.instanceMethod yX9_photoSees, Cond.selects RX9 yX9_photoSees yX9_photoSees, Cond.initialized RX9, Cond.code yX9_photoSees cX9_photoSees 4 (some .boolean), Cond.fieldLink RX9 29 "AerialSurveyModel" "rowOf" "[I", Cond.methodLink RX9 90 yX9_columnOf, Cond.instanceMethod yX9_columnOf, Cond.selects RX9 yX9_columnOf yX9_columnOf, Cond.code yX9_columnOf cX9_columnOf 3 (some .int), Cond.fieldLink RX9 32 "AerialSurveyModel" "firstOf" "[I", Cond.fieldLink RX9 38 "AerialSurveyModel" "spacingOf" "[I", Cond.methodLink RX9 100 yX9_sees, Cond.instanceMethod yX9_sees, Cond.selects RX9 yX9_sees yX9_sees, Cond.code yX9_sees cX9_sees 8 (some .boolean), Cond.fieldLink RX9 25 "AerialSurveyModel" "ground" "[I", Cond.fieldLink RX9 7 "AerialSurveyModel" "altitude" "I", Cond.fieldLink RX9 69 "AerialSurveyModel" "crabNow" "I", Cond.fieldLink RX9 13 "AerialSurveyModel" "along" "I", Cond.fieldLink RX9 16 "AerialSurveyModel" "across" "I", Cond.methodLink RX9 65 yX9_size]
def wsX9_footprint_r2 : List Cond := [Cond.static yX9_size, Cond.code yX9_size cX9_size 1 (some .int), Cond.methodLink RX9 96 yX9_isBlocked, Cond.instanceMethod yX9_isBlocked, Cond.selects RX9 yX9_isBlocked yX9_isBlocked, Cond.code yX9_isBlocked cX9_isBlocked 10 (some .boolean), Cond.methodLink RX9 93 yX9_nearest, Cond.static yX9_nearest, Cond.code yX9_nearest cX9_nearest 5 (some .int)]
def wsX9_footprint : List Cond := .code yX9_footprint cX9_footprint 5 (some .int) :: ((wsX9_footprint_r1 ++ wsX9_footprint_r2) ++ wsX90)
def wsX9_footprintSize_r1 : List Cond := [Cond.methodLink RX9 86 yX9_checkPhoto, Cond.instanceMethod yX9_checkPhoto, Cond.selects RX9 yX9_checkPhoto yX9_checkPhoto, Cond.initialized RX9, Cond.code yX9_checkPhoto cX9_checkPhoto 3 (some .int), Cond.methodLink RX9 79 yX9_isStrip, Cond.instanceMethod yX9_isStrip, Cond.selects RX9 yX9_isStrip yX9_isStrip, Cond.code yX9_isStrip cX9_isStrip 2 (some .boolean), Cond.fieldLink RX9 58 "AerialSurveyModel" "strips" "I", Cond.methodLink RX9 54 yX9_isBetween, Cond.static yX9_isBetween, Cond.code yX9_isBetween cX9_isBetween 3 (some .boolean), Cond.methodLink RX9 83 yX9_photosOf, Cond.instanceMethod yX9_photosOf, Cond.selects RX9 yX9_photosOf yX9_photosOf, Cond.code yX9_photosOf cX9_photosOf 2 (some .int), Cond.fieldLink RX9 35 "AerialSurveyModel" "lastOf" "[I", Cond.fieldLink RX9 32 "AerialSurveyModel" "firstOf" "[I", Cond.fieldLink RX9 38 "AerialSurveyModel" "spacingOf" "[I", Cond.methodLink RX9 107 yX9_footprint, Cond.instanceMethod yX9_footprint, Cond.selects RX9 yX9_footprint yX9_footprint, Cond.code yX9_footprint cX9_footprint 5 (some .int)]
def wsX9_footprintSize_r2 : List Cond := [Cond.fieldLink RX9 48 "AerialSurveyModel" "rows" "I", Cond.fieldLink RX9 51 "AerialSurveyModel" "columns" "I", Cond.methodLink RX9 104 yX9_photoSees, Cond.instanceMethod yX9_photoSees, Cond.selects RX9 yX9_photoSees yX9_photoSees, Cond.code yX9_photoSees cX9_photoSees 4 (some .boolean), Cond.fieldLink RX9 29 "AerialSurveyModel" "rowOf" "[I", Cond.methodLink RX9 90 yX9_columnOf, Cond.instanceMethod yX9_columnOf, Cond.selects RX9 yX9_columnOf yX9_columnOf, Cond.code yX9_columnOf cX9_columnOf 3 (some .int), Cond.methodLink RX9 100 yX9_sees, Cond.instanceMethod yX9_sees, Cond.selects RX9 yX9_sees yX9_sees, Cond.code yX9_sees cX9_sees 8 (some .boolean), Cond.fieldLink RX9 25 "AerialSurveyModel" "ground" "[I", Cond.fieldLink RX9 7 "AerialSurveyModel" "altitude" "I", Cond.fieldLink RX9 69 "AerialSurveyModel" "crabNow" "I", Cond.fieldLink RX9 13 "AerialSurveyModel" "along" "I", Cond.fieldLink RX9 16 "AerialSurveyModel" "across" "I", Cond.methodLink RX9 65 yX9_size, Cond.static yX9_size, Cond.code yX9_size cX9_size 1 (some .int), Cond.methodLink RX9 96 yX9_isBlocked]
def wsX9_footprintSize_r3 : List Cond := [Cond.instanceMethod yX9_isBlocked, Cond.selects RX9 yX9_isBlocked yX9_isBlocked, Cond.code yX9_isBlocked cX9_isBlocked 10 (some .boolean), Cond.methodLink RX9 93 yX9_nearest, Cond.static yX9_nearest, Cond.code yX9_nearest cX9_nearest 5 (some .int)]
def wsX9_footprintSize : List Cond := .code yX9_footprintSize cX9_footprintSize 4 (some .int) :: ((wsX9_footprintSize_r1 ++ (wsX9_footprintSize_r2 ++ wsX9_footprintSize_r3)) ++ wsX90)
def wsX9_coverageOf_r1 : List Cond := [Cond.fieldLink RX9 58 "AerialSurveyModel" "strips" "I", Cond.methodLink RX9 83 yX9_photosOf, Cond.instanceMethod yX9_photosOf, Cond.selects RX9 yX9_photosOf yX9_photosOf, Cond.initialized RX9, Cond.code yX9_photosOf cX9_photosOf 2 (some .int), Cond.fieldLink RX9 35 "AerialSurveyModel" "lastOf" "[I", Cond.fieldLink RX9 32 "AerialSurveyModel" "firstOf" "[I", Cond.fieldLink RX9 38 "AerialSurveyModel" "spacingOf" "[I", Cond.methodLink RX9 104 yX9_photoSees, Cond.instanceMethod yX9_photoSees, Cond.selects RX9 yX9_photoSees yX9_photoSees, Cond.code yX9_photoSees cX9_photoSees 4 (some .boolean), Cond.fieldLink RX9 29 "AerialSurveyModel" "rowOf" "[I", Cond.fieldLink RX9 51 "AerialSurveyModel" "columns" "I", Cond.methodLink RX9 90 yX9_columnOf, Cond.instanceMethod yX9_columnOf, Cond.selects RX9 yX9_columnOf yX9_columnOf, Cond.code yX9_columnOf cX9_columnOf 3 (some .int), Cond.methodLink RX9 100 yX9_sees, Cond.instanceMethod yX9_sees, Cond.selects RX9 yX9_sees yX9_sees, Cond.code yX9_sees cX9_sees 8 (some .boolean), Cond.fieldLink RX9 25 "AerialSurveyModel" "ground" "[I"]
def wsX9_coverageOf_r2 : List Cond := [Cond.fieldLink RX9 7 "AerialSurveyModel" "altitude" "I", Cond.fieldLink RX9 69 "AerialSurveyModel" "crabNow" "I", Cond.fieldLink RX9 13 "AerialSurveyModel" "along" "I", Cond.fieldLink RX9 16 "AerialSurveyModel" "across" "I", Cond.methodLink RX9 65 yX9_size, Cond.static yX9_size, Cond.code yX9_size cX9_size 1 (some .int), Cond.methodLink RX9 96 yX9_isBlocked, Cond.instanceMethod yX9_isBlocked, Cond.selects RX9 yX9_isBlocked yX9_isBlocked, Cond.code yX9_isBlocked cX9_isBlocked 10 (some .boolean), Cond.methodLink RX9 93 yX9_nearest, Cond.static yX9_nearest, Cond.code yX9_nearest cX9_nearest 5 (some .int)]
def wsX9_coverageOf : List Cond := .code yX9_coverageOf cX9_coverageOf 5 (some .int) :: ((wsX9_coverageOf_r1 ++ wsX9_coverageOf_r2) ++ wsX90)
def wsX9_coverage_r1 : List Cond := [Cond.fieldLink RX9 51 "AerialSurveyModel" "columns" "I", Cond.methodLink RX9 61 yX9_isCell, Cond.instanceMethod yX9_isCell, Cond.selects RX9 yX9_isCell yX9_isCell, Cond.initialized RX9, Cond.code yX9_isCell cX9_isCell 3 (some .boolean), Cond.fieldLink RX9 48 "AerialSurveyModel" "rows" "I", Cond.methodLink RX9 54 yX9_isBetween, Cond.static yX9_isBetween, Cond.code yX9_isBetween cX9_isBetween 3 (some .boolean), Cond.methodLink RX9 110 yX9_coverageOf, Cond.instanceMethod yX9_coverageOf, Cond.selects RX9 yX9_coverageOf yX9_coverageOf, Cond.code yX9_coverageOf cX9_coverageOf 5 (some .int), Cond.fieldLink RX9 58 "AerialSurveyModel" "strips" "I", Cond.methodLink RX9 83 yX9_photosOf, Cond.instanceMethod yX9_photosOf, Cond.selects RX9 yX9_photosOf yX9_photosOf, Cond.code yX9_photosOf cX9_photosOf 2 (some .int), Cond.fieldLink RX9 35 "AerialSurveyModel" "lastOf" "[I", Cond.fieldLink RX9 32 "AerialSurveyModel" "firstOf" "[I", Cond.fieldLink RX9 38 "AerialSurveyModel" "spacingOf" "[I", Cond.methodLink RX9 104 yX9_photoSees, Cond.instanceMethod yX9_photoSees]
def wsX9_coverage_r2 : List Cond := [Cond.selects RX9 yX9_photoSees yX9_photoSees, Cond.code yX9_photoSees cX9_photoSees 4 (some .boolean), Cond.fieldLink RX9 29 "AerialSurveyModel" "rowOf" "[I", Cond.methodLink RX9 90 yX9_columnOf, Cond.instanceMethod yX9_columnOf, Cond.selects RX9 yX9_columnOf yX9_columnOf, Cond.code yX9_columnOf cX9_columnOf 3 (some .int), Cond.methodLink RX9 100 yX9_sees, Cond.instanceMethod yX9_sees, Cond.selects RX9 yX9_sees yX9_sees, Cond.code yX9_sees cX9_sees 8 (some .boolean), Cond.fieldLink RX9 25 "AerialSurveyModel" "ground" "[I", Cond.fieldLink RX9 7 "AerialSurveyModel" "altitude" "I", Cond.fieldLink RX9 69 "AerialSurveyModel" "crabNow" "I", Cond.fieldLink RX9 13 "AerialSurveyModel" "along" "I", Cond.fieldLink RX9 16 "AerialSurveyModel" "across" "I", Cond.methodLink RX9 65 yX9_size, Cond.static yX9_size, Cond.code yX9_size cX9_size 1 (some .int), Cond.methodLink RX9 96 yX9_isBlocked, Cond.instanceMethod yX9_isBlocked, Cond.selects RX9 yX9_isBlocked yX9_isBlocked, Cond.code yX9_isBlocked cX9_isBlocked 10 (some .boolean), Cond.methodLink RX9 93 yX9_nearest]
def wsX9_coverage_r3 : List Cond := [Cond.static yX9_nearest, Cond.code yX9_nearest cX9_nearest 5 (some .int)]
def wsX9_coverage : List Cond := .code yX9_coverage cX9_coverage 3 (some .int) :: ((wsX9_coverage_r1 ++ (wsX9_coverage_r2 ++ wsX9_coverage_r3)) ++ wsX90)
def wsX9_isRequired : List Cond := .code yX9_isRequired cX9_isRequired 1 (some .boolean) :: ([.methodLink RX9 54 yX9_isBetween, .static yX9_isBetween, .initialized RX9, .code yX9_isBetween cX9_isBetween 3 (some .boolean)])
def wsX9_gapCount_r1 : List Cond := [Cond.fieldLink RX9 48 "AerialSurveyModel" "rows" "I", Cond.fieldLink RX9 51 "AerialSurveyModel" "columns" "I", Cond.methodLink RX9 113 yX9_isRequired, Cond.static yX9_isRequired, Cond.initialized RX9, Cond.code yX9_isRequired cX9_isRequired 1 (some .boolean), Cond.methodLink RX9 54 yX9_isBetween, Cond.static yX9_isBetween, Cond.code yX9_isBetween cX9_isBetween 3 (some .boolean), Cond.methodLink RX9 110 yX9_coverageOf, Cond.instanceMethod yX9_coverageOf, Cond.selects RX9 yX9_coverageOf yX9_coverageOf, Cond.code yX9_coverageOf cX9_coverageOf 5 (some .int), Cond.fieldLink RX9 58 "AerialSurveyModel" "strips" "I", Cond.methodLink RX9 83 yX9_photosOf, Cond.instanceMethod yX9_photosOf, Cond.selects RX9 yX9_photosOf yX9_photosOf, Cond.code yX9_photosOf cX9_photosOf 2 (some .int), Cond.fieldLink RX9 35 "AerialSurveyModel" "lastOf" "[I", Cond.fieldLink RX9 32 "AerialSurveyModel" "firstOf" "[I", Cond.fieldLink RX9 38 "AerialSurveyModel" "spacingOf" "[I", Cond.methodLink RX9 104 yX9_photoSees, Cond.instanceMethod yX9_photoSees, Cond.selects RX9 yX9_photoSees yX9_photoSees]
def wsX9_gapCount_r2 : List Cond := [Cond.code yX9_photoSees cX9_photoSees 4 (some .boolean), Cond.fieldLink RX9 29 "AerialSurveyModel" "rowOf" "[I", Cond.methodLink RX9 90 yX9_columnOf, Cond.instanceMethod yX9_columnOf, Cond.selects RX9 yX9_columnOf yX9_columnOf, Cond.code yX9_columnOf cX9_columnOf 3 (some .int), Cond.methodLink RX9 100 yX9_sees, Cond.instanceMethod yX9_sees, Cond.selects RX9 yX9_sees yX9_sees, Cond.code yX9_sees cX9_sees 8 (some .boolean), Cond.fieldLink RX9 25 "AerialSurveyModel" "ground" "[I", Cond.fieldLink RX9 7 "AerialSurveyModel" "altitude" "I", Cond.fieldLink RX9 69 "AerialSurveyModel" "crabNow" "I", Cond.fieldLink RX9 13 "AerialSurveyModel" "along" "I", Cond.fieldLink RX9 16 "AerialSurveyModel" "across" "I", Cond.methodLink RX9 65 yX9_size, Cond.static yX9_size, Cond.code yX9_size cX9_size 1 (some .int), Cond.methodLink RX9 96 yX9_isBlocked, Cond.instanceMethod yX9_isBlocked, Cond.selects RX9 yX9_isBlocked yX9_isBlocked, Cond.code yX9_isBlocked cX9_isBlocked 10 (some .boolean), Cond.methodLink RX9 93 yX9_nearest, Cond.static yX9_nearest]
def wsX9_gapCount_r3 : List Cond := [Cond.code yX9_nearest cX9_nearest 5 (some .int)]
def wsX9_gapCount : List Cond := .code yX9_gapCount cX9_gapCount 4 (some .int) :: ((wsX9_gapCount_r1 ++ (wsX9_gapCount_r2 ++ wsX9_gapCount_r3)) ++ wsX90)
def wsX9_gapAt_r1 : List Cond := [Cond.fieldLink RX9 48 "AerialSurveyModel" "rows" "I", Cond.fieldLink RX9 51 "AerialSurveyModel" "columns" "I", Cond.methodLink RX9 113 yX9_isRequired, Cond.static yX9_isRequired, Cond.initialized RX9, Cond.code yX9_isRequired cX9_isRequired 1 (some .boolean), Cond.methodLink RX9 54 yX9_isBetween, Cond.static yX9_isBetween, Cond.code yX9_isBetween cX9_isBetween 3 (some .boolean), Cond.methodLink RX9 110 yX9_coverageOf, Cond.instanceMethod yX9_coverageOf, Cond.selects RX9 yX9_coverageOf yX9_coverageOf, Cond.code yX9_coverageOf cX9_coverageOf 5 (some .int), Cond.fieldLink RX9 58 "AerialSurveyModel" "strips" "I", Cond.methodLink RX9 83 yX9_photosOf, Cond.instanceMethod yX9_photosOf, Cond.selects RX9 yX9_photosOf yX9_photosOf, Cond.code yX9_photosOf cX9_photosOf 2 (some .int), Cond.fieldLink RX9 35 "AerialSurveyModel" "lastOf" "[I", Cond.fieldLink RX9 32 "AerialSurveyModel" "firstOf" "[I", Cond.fieldLink RX9 38 "AerialSurveyModel" "spacingOf" "[I", Cond.methodLink RX9 104 yX9_photoSees, Cond.instanceMethod yX9_photoSees, Cond.selects RX9 yX9_photoSees yX9_photoSees]
def wsX9_gapAt_r2 : List Cond := [Cond.code yX9_photoSees cX9_photoSees 4 (some .boolean), Cond.fieldLink RX9 29 "AerialSurveyModel" "rowOf" "[I", Cond.methodLink RX9 90 yX9_columnOf, Cond.instanceMethod yX9_columnOf, Cond.selects RX9 yX9_columnOf yX9_columnOf, Cond.code yX9_columnOf cX9_columnOf 3 (some .int), Cond.methodLink RX9 100 yX9_sees, Cond.instanceMethod yX9_sees, Cond.selects RX9 yX9_sees yX9_sees, Cond.code yX9_sees cX9_sees 8 (some .boolean), Cond.fieldLink RX9 25 "AerialSurveyModel" "ground" "[I", Cond.fieldLink RX9 7 "AerialSurveyModel" "altitude" "I", Cond.fieldLink RX9 69 "AerialSurveyModel" "crabNow" "I", Cond.fieldLink RX9 13 "AerialSurveyModel" "along" "I", Cond.fieldLink RX9 16 "AerialSurveyModel" "across" "I", Cond.methodLink RX9 65 yX9_size, Cond.static yX9_size, Cond.code yX9_size cX9_size 1 (some .int), Cond.methodLink RX9 96 yX9_isBlocked, Cond.instanceMethod yX9_isBlocked, Cond.selects RX9 yX9_isBlocked yX9_isBlocked, Cond.code yX9_isBlocked cX9_isBlocked 10 (some .boolean), Cond.methodLink RX9 93 yX9_nearest, Cond.static yX9_nearest]
def wsX9_gapAt_r3 : List Cond := [Cond.code yX9_nearest cX9_nearest 5 (some .int)]
def wsX9_gapAt : List Cond := .code yX9_gapAt cX9_gapAt 5 (some .int) :: ((wsX9_gapAt_r1 ++ (wsX9_gapAt_r2 ++ wsX9_gapAt_r3)) ++ wsX90)
def wsX9_percent : List Cond := .code yX9_percent cX9_percent 4 (some .int) :: ([])
def wsX9_forwardOverlap_r1 : List Cond := [Cond.fieldLink RX9 48 "AerialSurveyModel" "rows" "I", Cond.fieldLink RX9 51 "AerialSurveyModel" "columns" "I", Cond.methodLink RX9 86 yX9_checkPhoto, Cond.instanceMethod yX9_checkPhoto, Cond.selects RX9 yX9_checkPhoto yX9_checkPhoto, Cond.initialized RX9, Cond.code yX9_checkPhoto cX9_checkPhoto 3 (some .int), Cond.methodLink RX9 79 yX9_isStrip, Cond.instanceMethod yX9_isStrip, Cond.selects RX9 yX9_isStrip yX9_isStrip, Cond.code yX9_isStrip cX9_isStrip 2 (some .boolean), Cond.fieldLink RX9 58 "AerialSurveyModel" "strips" "I", Cond.methodLink RX9 54 yX9_isBetween, Cond.static yX9_isBetween, Cond.code yX9_isBetween cX9_isBetween 3 (some .boolean), Cond.methodLink RX9 83 yX9_photosOf, Cond.instanceMethod yX9_photosOf, Cond.selects RX9 yX9_photosOf yX9_photosOf, Cond.code yX9_photosOf cX9_photosOf 2 (some .int), Cond.fieldLink RX9 35 "AerialSurveyModel" "lastOf" "[I", Cond.fieldLink RX9 32 "AerialSurveyModel" "firstOf" "[I", Cond.fieldLink RX9 38 "AerialSurveyModel" "spacingOf" "[I", Cond.methodLink RX9 104 yX9_photoSees, Cond.instanceMethod yX9_photoSees]
def wsX9_forwardOverlap_r2 : List Cond := [Cond.selects RX9 yX9_photoSees yX9_photoSees, Cond.code yX9_photoSees cX9_photoSees 4 (some .boolean), Cond.fieldLink RX9 29 "AerialSurveyModel" "rowOf" "[I", Cond.methodLink RX9 90 yX9_columnOf, Cond.instanceMethod yX9_columnOf, Cond.selects RX9 yX9_columnOf yX9_columnOf, Cond.code yX9_columnOf cX9_columnOf 3 (some .int), Cond.methodLink RX9 100 yX9_sees, Cond.instanceMethod yX9_sees, Cond.selects RX9 yX9_sees yX9_sees, Cond.code yX9_sees cX9_sees 8 (some .boolean), Cond.fieldLink RX9 25 "AerialSurveyModel" "ground" "[I", Cond.fieldLink RX9 7 "AerialSurveyModel" "altitude" "I", Cond.fieldLink RX9 69 "AerialSurveyModel" "crabNow" "I", Cond.fieldLink RX9 13 "AerialSurveyModel" "along" "I", Cond.fieldLink RX9 16 "AerialSurveyModel" "across" "I", Cond.methodLink RX9 65 yX9_size, Cond.static yX9_size, Cond.code yX9_size cX9_size 1 (some .int), Cond.methodLink RX9 96 yX9_isBlocked, Cond.instanceMethod yX9_isBlocked, Cond.selects RX9 yX9_isBlocked yX9_isBlocked, Cond.code yX9_isBlocked cX9_isBlocked 10 (some .boolean), Cond.methodLink RX9 93 yX9_nearest]
def wsX9_forwardOverlap_r3 : List Cond := [Cond.static yX9_nearest, Cond.code yX9_nearest cX9_nearest 5 (some .int), Cond.methodLink RX9 107 yX9_footprint, Cond.instanceMethod yX9_footprint, Cond.selects RX9 yX9_footprint yX9_footprint, Cond.code yX9_footprint cX9_footprint 5 (some .int), Cond.methodLink RX9 116 yX9_percent, Cond.static yX9_percent, Cond.code yX9_percent cX9_percent 4 (some .int)]
def wsX9_forwardOverlap : List Cond := .code yX9_forwardOverlap cX9_forwardOverlap 6 (some .int) :: ((wsX9_forwardOverlap_r1 ++ (wsX9_forwardOverlap_r2 ++ wsX9_forwardOverlap_r3)) ++ wsX90)
def wsX9_stripSees_r1 : List Cond := [Cond.methodLink RX9 83 yX9_photosOf, Cond.instanceMethod yX9_photosOf, Cond.selects RX9 yX9_photosOf yX9_photosOf, Cond.initialized RX9, Cond.code yX9_photosOf cX9_photosOf 2 (some .int), Cond.fieldLink RX9 35 "AerialSurveyModel" "lastOf" "[I", Cond.fieldLink RX9 32 "AerialSurveyModel" "firstOf" "[I", Cond.fieldLink RX9 38 "AerialSurveyModel" "spacingOf" "[I", Cond.methodLink RX9 104 yX9_photoSees, Cond.instanceMethod yX9_photoSees, Cond.selects RX9 yX9_photoSees yX9_photoSees, Cond.code yX9_photoSees cX9_photoSees 4 (some .boolean), Cond.fieldLink RX9 29 "AerialSurveyModel" "rowOf" "[I", Cond.fieldLink RX9 51 "AerialSurveyModel" "columns" "I", Cond.methodLink RX9 90 yX9_columnOf, Cond.instanceMethod yX9_columnOf, Cond.selects RX9 yX9_columnOf yX9_columnOf, Cond.code yX9_columnOf cX9_columnOf 3 (some .int), Cond.methodLink RX9 100 yX9_sees, Cond.instanceMethod yX9_sees, Cond.selects RX9 yX9_sees yX9_sees, Cond.code yX9_sees cX9_sees 8 (some .boolean), Cond.fieldLink RX9 25 "AerialSurveyModel" "ground" "[I", Cond.fieldLink RX9 7 "AerialSurveyModel" "altitude" "I"]
def wsX9_stripSees_r2 : List Cond := [Cond.fieldLink RX9 69 "AerialSurveyModel" "crabNow" "I", Cond.fieldLink RX9 13 "AerialSurveyModel" "along" "I", Cond.fieldLink RX9 16 "AerialSurveyModel" "across" "I", Cond.methodLink RX9 65 yX9_size, Cond.static yX9_size, Cond.code yX9_size cX9_size 1 (some .int), Cond.methodLink RX9 96 yX9_isBlocked, Cond.instanceMethod yX9_isBlocked, Cond.selects RX9 yX9_isBlocked yX9_isBlocked, Cond.code yX9_isBlocked cX9_isBlocked 10 (some .boolean), Cond.methodLink RX9 93 yX9_nearest, Cond.static yX9_nearest, Cond.code yX9_nearest cX9_nearest 5 (some .int)]
def wsX9_stripSees : List Cond := .code yX9_stripSees cX9_stripSees 4 (some .boolean) :: ((wsX9_stripSees_r1 ++ wsX9_stripSees_r2) ++ wsX90)
def wsX9_sideOverlap_r1 : List Cond := [Cond.fieldLink RX9 48 "AerialSurveyModel" "rows" "I", Cond.fieldLink RX9 51 "AerialSurveyModel" "columns" "I", Cond.methodLink RX9 79 yX9_isStrip, Cond.instanceMethod yX9_isStrip, Cond.selects RX9 yX9_isStrip yX9_isStrip, Cond.initialized RX9, Cond.code yX9_isStrip cX9_isStrip 2 (some .boolean), Cond.fieldLink RX9 58 "AerialSurveyModel" "strips" "I", Cond.methodLink RX9 54 yX9_isBetween, Cond.static yX9_isBetween, Cond.code yX9_isBetween cX9_isBetween 3 (some .boolean), Cond.methodLink RX9 120 yX9_stripSees, Cond.instanceMethod yX9_stripSees, Cond.selects RX9 yX9_stripSees yX9_stripSees, Cond.code yX9_stripSees cX9_stripSees 4 (some .boolean), Cond.methodLink RX9 83 yX9_photosOf, Cond.instanceMethod yX9_photosOf, Cond.selects RX9 yX9_photosOf yX9_photosOf, Cond.code yX9_photosOf cX9_photosOf 2 (some .int), Cond.fieldLink RX9 35 "AerialSurveyModel" "lastOf" "[I", Cond.fieldLink RX9 32 "AerialSurveyModel" "firstOf" "[I", Cond.fieldLink RX9 38 "AerialSurveyModel" "spacingOf" "[I", Cond.methodLink RX9 104 yX9_photoSees, Cond.instanceMethod yX9_photoSees]
def wsX9_sideOverlap_r2 : List Cond := [Cond.selects RX9 yX9_photoSees yX9_photoSees, Cond.code yX9_photoSees cX9_photoSees 4 (some .boolean), Cond.fieldLink RX9 29 "AerialSurveyModel" "rowOf" "[I", Cond.methodLink RX9 90 yX9_columnOf, Cond.instanceMethod yX9_columnOf, Cond.selects RX9 yX9_columnOf yX9_columnOf, Cond.code yX9_columnOf cX9_columnOf 3 (some .int), Cond.methodLink RX9 100 yX9_sees, Cond.instanceMethod yX9_sees, Cond.selects RX9 yX9_sees yX9_sees, Cond.code yX9_sees cX9_sees 8 (some .boolean), Cond.fieldLink RX9 25 "AerialSurveyModel" "ground" "[I", Cond.fieldLink RX9 7 "AerialSurveyModel" "altitude" "I", Cond.fieldLink RX9 69 "AerialSurveyModel" "crabNow" "I", Cond.fieldLink RX9 13 "AerialSurveyModel" "along" "I", Cond.fieldLink RX9 16 "AerialSurveyModel" "across" "I", Cond.methodLink RX9 65 yX9_size, Cond.static yX9_size, Cond.code yX9_size cX9_size 1 (some .int), Cond.methodLink RX9 96 yX9_isBlocked, Cond.instanceMethod yX9_isBlocked, Cond.selects RX9 yX9_isBlocked yX9_isBlocked, Cond.code yX9_isBlocked cX9_isBlocked 10 (some .boolean), Cond.methodLink RX9 93 yX9_nearest]
def wsX9_sideOverlap_r3 : List Cond := [Cond.static yX9_nearest, Cond.code yX9_nearest cX9_nearest 5 (some .int), Cond.methodLink RX9 116 yX9_percent, Cond.static yX9_percent, Cond.code yX9_percent cX9_percent 4 (some .int)]
def wsX9_sideOverlap : List Cond := .code yX9_sideOverlap cX9_sideOverlap 9 (some .int) :: ((wsX9_sideOverlap_r1 ++ (wsX9_sideOverlap_r2 ++ wsX9_sideOverlap_r3)) ++ wsX90)
def wsX9_layOutVisibility : List Cond := .code yX9_layOutVisibility cX9_layOutVisibility 4 none :: ([.fieldLink RX9 48 "AerialSurveyModel" "rows" "I", .fieldLink RX9 51 "AerialSurveyModel" "columns" "I", .fieldLink RX9 41 "AerialSurveyModel" "seenFrom" "[Z", .methodLink RX9 100 yX9_sees, .instanceMethod yX9_sees, .selects RX9 yX9_sees yX9_sees, .initialized RX9, .code yX9_sees cX9_sees 8 (some .boolean), .fieldLink RX9 25 "AerialSurveyModel" "ground" "[I", .fieldLink RX9 7 "AerialSurveyModel" "altitude" "I", .fieldLink RX9 69 "AerialSurveyModel" "crabNow" "I", .fieldLink RX9 13 "AerialSurveyModel" "along" "I", .fieldLink RX9 16 "AerialSurveyModel" "across" "I", .methodLink RX9 65 yX9_size, .static yX9_size, .code yX9_size cX9_size 1 (some .int), .methodLink RX9 96 yX9_isBlocked, .instanceMethod yX9_isBlocked, .selects RX9 yX9_isBlocked yX9_isBlocked, .code yX9_isBlocked cX9_isBlocked 10 (some .boolean), .methodLink RX9 93 yX9_nearest, .static yX9_nearest, .code yX9_nearest cX9_nearest 5 (some .int)] ++ wsX90)
def wsX9_isCovered : List Cond := .code yX9_isCovered cX9_isCovered 8 (some .boolean) :: ([.fieldLink RX9 48 "AerialSurveyModel" "rows" "I", .fieldLink RX9 51 "AerialSurveyModel" "columns" "I", .fieldLink RX9 41 "AerialSurveyModel" "seenFrom" "[Z"] ++ wsX90)
def wsX9_photosBy : List Cond := .code yX9_photosBy cX9_photosBy 6 (some .int) :: ([.fieldLink RX9 48 "AerialSurveyModel" "rows" "I", .constant RX9 123 (100000000), .fieldLink RX9 51 "AerialSurveyModel" "columns" "I", .methodLink RX9 124 yX9_isCovered, .instanceMethod yX9_isCovered, .selects RX9 yX9_isCovered yX9_isCovered, .initialized RX9, .code yX9_isCovered cX9_isCovered 8 (some .boolean), .fieldLink RX9 41 "AerialSurveyModel" "seenFrom" "[Z"] ++ wsX90)
def wsX9_findPlan_r1 : List Cond := [Cond.constant RX9 123 (100000000), Cond.fieldLink RX9 130 "AerialSurveyModel" "planPhotos" "I", Cond.fieldLink RX9 48 "AerialSurveyModel" "rows" "I", Cond.fieldLink RX9 51 "AerialSurveyModel" "columns" "I", Cond.fieldLink RX9 136 "AerialSurveyModel" "planRows" "I", Cond.fieldLink RX9 139 "AerialSurveyModel" "planSpacing" "I", Cond.methodLink RX9 127 yX9_layOutVisibility, Cond.instanceMethod yX9_layOutVisibility, Cond.selects RX9 yX9_layOutVisibility yX9_layOutVisibility, Cond.initialized RX9, Cond.code yX9_layOutVisibility cX9_layOutVisibility 4 none, Cond.fieldLink RX9 41 "AerialSurveyModel" "seenFrom" "[Z", Cond.methodLink RX9 100 yX9_sees, Cond.instanceMethod yX9_sees, Cond.selects RX9 yX9_sees yX9_sees, Cond.code yX9_sees cX9_sees 8 (some .boolean), Cond.fieldLink RX9 25 "AerialSurveyModel" "ground" "[I", Cond.fieldLink RX9 7 "AerialSurveyModel" "altitude" "I", Cond.fieldLink RX9 69 "AerialSurveyModel" "crabNow" "I", Cond.fieldLink RX9 13 "AerialSurveyModel" "along" "I", Cond.fieldLink RX9 16 "AerialSurveyModel" "across" "I", Cond.methodLink RX9 65 yX9_size, Cond.static yX9_size, Cond.code yX9_size cX9_size 1 (some .int)]
def wsX9_findPlan_r2 : List Cond := [Cond.methodLink RX9 96 yX9_isBlocked, Cond.instanceMethod yX9_isBlocked, Cond.selects RX9 yX9_isBlocked yX9_isBlocked, Cond.code yX9_isBlocked cX9_isBlocked 10 (some .boolean), Cond.methodLink RX9 93 yX9_nearest, Cond.static yX9_nearest, Cond.code yX9_nearest cX9_nearest 5 (some .int), Cond.methodLink RX9 133 yX9_photosBy, Cond.instanceMethod yX9_photosBy, Cond.selects RX9 yX9_photosBy yX9_photosBy, Cond.code yX9_photosBy cX9_photosBy 6 (some .int), Cond.methodLink RX9 124 yX9_isCovered, Cond.instanceMethod yX9_isCovered, Cond.selects RX9 yX9_isCovered yX9_isCovered, Cond.code yX9_isCovered cX9_isCovered 8 (some .boolean)]
def wsX9_findPlan : List Cond := .code yX9_findPlan cX9_findPlan 6 (some .boolean) :: ((wsX9_findPlan_r1 ++ wsX9_findPlan_r2) ++ wsX90)
def wsX9_planPhotos_r1 : List Cond := [Cond.fieldLink RX9 130 "AerialSurveyModel" "planPhotos" "I", Cond.methodLink RX9 113 yX9_isRequired, Cond.static yX9_isRequired, Cond.initialized RX9, Cond.code yX9_isRequired cX9_isRequired 1 (some .boolean), Cond.methodLink RX9 54 yX9_isBetween, Cond.static yX9_isBetween, Cond.code yX9_isBetween cX9_isBetween 3 (some .boolean), Cond.methodLink RX9 142 yX9_findPlan, Cond.instanceMethod yX9_findPlan, Cond.selects RX9 yX9_findPlan yX9_findPlan, Cond.code yX9_findPlan cX9_findPlan 6 (some .boolean), Cond.constant RX9 123 (100000000), Cond.fieldLink RX9 48 "AerialSurveyModel" "rows" "I", Cond.fieldLink RX9 51 "AerialSurveyModel" "columns" "I", Cond.fieldLink RX9 136 "AerialSurveyModel" "planRows" "I", Cond.fieldLink RX9 139 "AerialSurveyModel" "planSpacing" "I", Cond.methodLink RX9 127 yX9_layOutVisibility, Cond.instanceMethod yX9_layOutVisibility, Cond.selects RX9 yX9_layOutVisibility yX9_layOutVisibility, Cond.code yX9_layOutVisibility cX9_layOutVisibility 4 none, Cond.fieldLink RX9 41 "AerialSurveyModel" "seenFrom" "[Z", Cond.methodLink RX9 100 yX9_sees, Cond.instanceMethod yX9_sees]
def wsX9_planPhotos_r2 : List Cond := [Cond.selects RX9 yX9_sees yX9_sees, Cond.code yX9_sees cX9_sees 8 (some .boolean), Cond.fieldLink RX9 25 "AerialSurveyModel" "ground" "[I", Cond.fieldLink RX9 7 "AerialSurveyModel" "altitude" "I", Cond.fieldLink RX9 69 "AerialSurveyModel" "crabNow" "I", Cond.fieldLink RX9 13 "AerialSurveyModel" "along" "I", Cond.fieldLink RX9 16 "AerialSurveyModel" "across" "I", Cond.methodLink RX9 65 yX9_size, Cond.static yX9_size, Cond.code yX9_size cX9_size 1 (some .int), Cond.methodLink RX9 96 yX9_isBlocked, Cond.instanceMethod yX9_isBlocked, Cond.selects RX9 yX9_isBlocked yX9_isBlocked, Cond.code yX9_isBlocked cX9_isBlocked 10 (some .boolean), Cond.methodLink RX9 93 yX9_nearest, Cond.static yX9_nearest, Cond.code yX9_nearest cX9_nearest 5 (some .int), Cond.methodLink RX9 133 yX9_photosBy, Cond.instanceMethod yX9_photosBy, Cond.selects RX9 yX9_photosBy yX9_photosBy, Cond.code yX9_photosBy cX9_photosBy 6 (some .int), Cond.methodLink RX9 124 yX9_isCovered, Cond.instanceMethod yX9_isCovered, Cond.selects RX9 yX9_isCovered yX9_isCovered]
def wsX9_planPhotos_r3 : List Cond := [Cond.code yX9_isCovered cX9_isCovered 8 (some .boolean)]
def wsX9_planPhotos : List Cond := .code yX9_planPhotos cX9_planPhotos 2 (some .int) :: ((wsX9_planPhotos_r1 ++ (wsX9_planPhotos_r2 ++ wsX9_planPhotos_r3)) ++ wsX90)
def wsX9_planRowSpacing_r1 : List Cond := [Cond.fieldLink RX9 136 "AerialSurveyModel" "planRows" "I", Cond.methodLink RX9 113 yX9_isRequired, Cond.static yX9_isRequired, Cond.initialized RX9, Cond.code yX9_isRequired cX9_isRequired 1 (some .boolean), Cond.methodLink RX9 54 yX9_isBetween, Cond.static yX9_isBetween, Cond.code yX9_isBetween cX9_isBetween 3 (some .boolean), Cond.methodLink RX9 142 yX9_findPlan, Cond.instanceMethod yX9_findPlan, Cond.selects RX9 yX9_findPlan yX9_findPlan, Cond.code yX9_findPlan cX9_findPlan 6 (some .boolean), Cond.constant RX9 123 (100000000), Cond.fieldLink RX9 130 "AerialSurveyModel" "planPhotos" "I", Cond.fieldLink RX9 48 "AerialSurveyModel" "rows" "I", Cond.fieldLink RX9 51 "AerialSurveyModel" "columns" "I", Cond.fieldLink RX9 139 "AerialSurveyModel" "planSpacing" "I", Cond.methodLink RX9 127 yX9_layOutVisibility, Cond.instanceMethod yX9_layOutVisibility, Cond.selects RX9 yX9_layOutVisibility yX9_layOutVisibility, Cond.code yX9_layOutVisibility cX9_layOutVisibility 4 none, Cond.fieldLink RX9 41 "AerialSurveyModel" "seenFrom" "[Z", Cond.methodLink RX9 100 yX9_sees, Cond.instanceMethod yX9_sees]
def wsX9_planRowSpacing_r2 : List Cond := [Cond.selects RX9 yX9_sees yX9_sees, Cond.code yX9_sees cX9_sees 8 (some .boolean), Cond.fieldLink RX9 25 "AerialSurveyModel" "ground" "[I", Cond.fieldLink RX9 7 "AerialSurveyModel" "altitude" "I", Cond.fieldLink RX9 69 "AerialSurveyModel" "crabNow" "I", Cond.fieldLink RX9 13 "AerialSurveyModel" "along" "I", Cond.fieldLink RX9 16 "AerialSurveyModel" "across" "I", Cond.methodLink RX9 65 yX9_size, Cond.static yX9_size, Cond.code yX9_size cX9_size 1 (some .int), Cond.methodLink RX9 96 yX9_isBlocked, Cond.instanceMethod yX9_isBlocked, Cond.selects RX9 yX9_isBlocked yX9_isBlocked, Cond.code yX9_isBlocked cX9_isBlocked 10 (some .boolean), Cond.methodLink RX9 93 yX9_nearest, Cond.static yX9_nearest, Cond.code yX9_nearest cX9_nearest 5 (some .int), Cond.methodLink RX9 133 yX9_photosBy, Cond.instanceMethod yX9_photosBy, Cond.selects RX9 yX9_photosBy yX9_photosBy, Cond.code yX9_photosBy cX9_photosBy 6 (some .int), Cond.methodLink RX9 124 yX9_isCovered, Cond.instanceMethod yX9_isCovered, Cond.selects RX9 yX9_isCovered yX9_isCovered]
def wsX9_planRowSpacing_r3 : List Cond := [Cond.code yX9_isCovered cX9_isCovered 8 (some .boolean)]
def wsX9_planRowSpacing : List Cond := .code yX9_planRowSpacing cX9_planRowSpacing 2 (some .int) :: ((wsX9_planRowSpacing_r1 ++ (wsX9_planRowSpacing_r2 ++ wsX9_planRowSpacing_r3)) ++ wsX90)
def wsX9_planPhotoSpacing_r1 : List Cond := [Cond.fieldLink RX9 139 "AerialSurveyModel" "planSpacing" "I", Cond.methodLink RX9 113 yX9_isRequired, Cond.static yX9_isRequired, Cond.initialized RX9, Cond.code yX9_isRequired cX9_isRequired 1 (some .boolean), Cond.methodLink RX9 54 yX9_isBetween, Cond.static yX9_isBetween, Cond.code yX9_isBetween cX9_isBetween 3 (some .boolean), Cond.methodLink RX9 142 yX9_findPlan, Cond.instanceMethod yX9_findPlan, Cond.selects RX9 yX9_findPlan yX9_findPlan, Cond.code yX9_findPlan cX9_findPlan 6 (some .boolean), Cond.constant RX9 123 (100000000), Cond.fieldLink RX9 130 "AerialSurveyModel" "planPhotos" "I", Cond.fieldLink RX9 48 "AerialSurveyModel" "rows" "I", Cond.fieldLink RX9 51 "AerialSurveyModel" "columns" "I", Cond.fieldLink RX9 136 "AerialSurveyModel" "planRows" "I", Cond.methodLink RX9 127 yX9_layOutVisibility, Cond.instanceMethod yX9_layOutVisibility, Cond.selects RX9 yX9_layOutVisibility yX9_layOutVisibility, Cond.code yX9_layOutVisibility cX9_layOutVisibility 4 none, Cond.fieldLink RX9 41 "AerialSurveyModel" "seenFrom" "[Z", Cond.methodLink RX9 100 yX9_sees, Cond.instanceMethod yX9_sees]
def wsX9_planPhotoSpacing_r2 : List Cond := [Cond.selects RX9 yX9_sees yX9_sees, Cond.code yX9_sees cX9_sees 8 (some .boolean), Cond.fieldLink RX9 25 "AerialSurveyModel" "ground" "[I", Cond.fieldLink RX9 7 "AerialSurveyModel" "altitude" "I", Cond.fieldLink RX9 69 "AerialSurveyModel" "crabNow" "I", Cond.fieldLink RX9 13 "AerialSurveyModel" "along" "I", Cond.fieldLink RX9 16 "AerialSurveyModel" "across" "I", Cond.methodLink RX9 65 yX9_size, Cond.static yX9_size, Cond.code yX9_size cX9_size 1 (some .int), Cond.methodLink RX9 96 yX9_isBlocked, Cond.instanceMethod yX9_isBlocked, Cond.selects RX9 yX9_isBlocked yX9_isBlocked, Cond.code yX9_isBlocked cX9_isBlocked 10 (some .boolean), Cond.methodLink RX9 93 yX9_nearest, Cond.static yX9_nearest, Cond.code yX9_nearest cX9_nearest 5 (some .int), Cond.methodLink RX9 133 yX9_photosBy, Cond.instanceMethod yX9_photosBy, Cond.selects RX9 yX9_photosBy yX9_photosBy, Cond.code yX9_photosBy cX9_photosBy 6 (some .int), Cond.methodLink RX9 124 yX9_isCovered, Cond.instanceMethod yX9_isCovered, Cond.selects RX9 yX9_isCovered yX9_isCovered]
def wsX9_planPhotoSpacing_r3 : List Cond := [Cond.code yX9_isCovered cX9_isCovered 8 (some .boolean)]
def wsX9_planPhotoSpacing : List Cond := .code yX9_planPhotoSpacing cX9_planPhotoSpacing 2 (some .int) :: ((wsX9_planPhotoSpacing_r1 ++ (wsX9_planPhotoSpacing_r2 ++ wsX9_planPhotoSpacing_r3)) ++ wsX90)
def wsX9_applyPlan_r1 : List Cond := [Cond.fieldLink RX9 58 "AerialSurveyModel" "strips" "I", Cond.fieldLink RX9 136 "AerialSurveyModel" "planRows" "I", Cond.fieldLink RX9 48 "AerialSurveyModel" "rows" "I", Cond.fieldLink RX9 51 "AerialSurveyModel" "columns" "I", Cond.fieldLink RX9 139 "AerialSurveyModel" "planSpacing" "I", Cond.methodLink RX9 113 yX9_isRequired, Cond.static yX9_isRequired, Cond.initialized RX9, Cond.code yX9_isRequired cX9_isRequired 1 (some .boolean), Cond.methodLink RX9 54 yX9_isBetween, Cond.static yX9_isBetween, Cond.code yX9_isBetween cX9_isBetween 3 (some .boolean), Cond.methodLink RX9 142 yX9_findPlan, Cond.instanceMethod yX9_findPlan, Cond.selects RX9 yX9_findPlan yX9_findPlan, Cond.code yX9_findPlan cX9_findPlan 6 (some .boolean), Cond.constant RX9 123 (100000000), Cond.fieldLink RX9 130 "AerialSurveyModel" "planPhotos" "I", Cond.methodLink RX9 127 yX9_layOutVisibility, Cond.instanceMethod yX9_layOutVisibility, Cond.selects RX9 yX9_layOutVisibility yX9_layOutVisibility, Cond.code yX9_layOutVisibility cX9_layOutVisibility 4 none, Cond.fieldLink RX9 41 "AerialSurveyModel" "seenFrom" "[Z", Cond.methodLink RX9 100 yX9_sees]
def wsX9_applyPlan_r2 : List Cond := [Cond.instanceMethod yX9_sees, Cond.selects RX9 yX9_sees yX9_sees, Cond.code yX9_sees cX9_sees 8 (some .boolean), Cond.fieldLink RX9 25 "AerialSurveyModel" "ground" "[I", Cond.fieldLink RX9 7 "AerialSurveyModel" "altitude" "I", Cond.fieldLink RX9 69 "AerialSurveyModel" "crabNow" "I", Cond.fieldLink RX9 13 "AerialSurveyModel" "along" "I", Cond.fieldLink RX9 16 "AerialSurveyModel" "across" "I", Cond.methodLink RX9 65 yX9_size, Cond.static yX9_size, Cond.code yX9_size cX9_size 1 (some .int), Cond.methodLink RX9 96 yX9_isBlocked, Cond.instanceMethod yX9_isBlocked, Cond.selects RX9 yX9_isBlocked yX9_isBlocked, Cond.code yX9_isBlocked cX9_isBlocked 10 (some .boolean), Cond.methodLink RX9 93 yX9_nearest, Cond.static yX9_nearest, Cond.code yX9_nearest cX9_nearest 5 (some .int), Cond.methodLink RX9 133 yX9_photosBy, Cond.instanceMethod yX9_photosBy, Cond.selects RX9 yX9_photosBy yX9_photosBy, Cond.code yX9_photosBy cX9_photosBy 6 (some .int), Cond.methodLink RX9 124 yX9_isCovered, Cond.instanceMethod yX9_isCovered]
def wsX9_applyPlan_r3 : List Cond := [Cond.selects RX9 yX9_isCovered yX9_isCovered, Cond.code yX9_isCovered cX9_isCovered 8 (some .boolean), Cond.methodLink RX9 75 yX9_put, Cond.instanceMethod yX9_put, Cond.selects RX9 yX9_put yX9_put, Cond.code yX9_put cX9_put 5 none, Cond.fieldLink RX9 29 "AerialSurveyModel" "rowOf" "[I", Cond.fieldLink RX9 32 "AerialSurveyModel" "firstOf" "[I", Cond.fieldLink RX9 35 "AerialSurveyModel" "lastOf" "[I", Cond.fieldLink RX9 38 "AerialSurveyModel" "spacingOf" "[I"]
def wsX9_applyPlan : List Cond := .code yX9_applyPlan cX9_applyPlan 3 (some .int) :: ((wsX9_applyPlan_r1 ++ (wsX9_applyPlan_r2 ++ wsX9_applyPlan_r3)) ++ wsX90)
def wsX9_legTime : List Cond := .code yX9_legTime cX9_legTime 3 (some .int) :: ([.fieldLink RX9 19 "AerialSurveyModel" "airspeedNow" "I", .fieldLink RX9 72 "AerialSurveyModel" "tailwindNow" "I", .fieldLink RX9 35 "AerialSurveyModel" "lastOf" "[I", .fieldLink RX9 32 "AerialSurveyModel" "firstOf" "[I"] ++ wsX90)
def wsX9_stripTime : List Cond := .code yX9_stripTime cX9_stripTime 3 (some .int) :: ([.methodLink RX9 79 yX9_isStrip, .instanceMethod yX9_isStrip, .selects RX9 yX9_isStrip yX9_isStrip, .initialized RX9, .code yX9_isStrip cX9_isStrip 2 (some .boolean), .fieldLink RX9 58 "AerialSurveyModel" "strips" "I", .methodLink RX9 54 yX9_isBetween, .static yX9_isBetween, .code yX9_isBetween cX9_isBetween 3 (some .boolean), .methodLink RX9 145 yX9_legTime, .instanceMethod yX9_legTime, .selects RX9 yX9_legTime yX9_legTime, .code yX9_legTime cX9_legTime 3 (some .int), .fieldLink RX9 19 "AerialSurveyModel" "airspeedNow" "I", .fieldLink RX9 72 "AerialSurveyModel" "tailwindNow" "I", .fieldLink RX9 35 "AerialSurveyModel" "lastOf" "[I", .fieldLink RX9 32 "AerialSurveyModel" "firstOf" "[I"] ++ wsX90)
def wsX9_entryColumn : List Cond := .code yX9_entryColumn cX9_entryColumn 2 (some .int) :: ([.fieldLink RX9 32 "AerialSurveyModel" "firstOf" "[I", .fieldLink RX9 35 "AerialSurveyModel" "lastOf" "[I"] ++ wsX90)
def wsX9_exitColumn : List Cond := .code yX9_exitColumn cX9_exitColumn 2 (some .int) :: ([.fieldLink RX9 35 "AerialSurveyModel" "lastOf" "[I", .fieldLink RX9 32 "AerialSurveyModel" "firstOf" "[I"] ++ wsX90)
def wsX9_timeBy : List Cond := .code yX9_timeBy cX9_timeBy 5 (some .int) :: ([.fieldLink RX9 29 "AerialSurveyModel" "rowOf" "[I", .fieldLink RX9 19 "AerialSurveyModel" "airspeedNow" "I", .fieldLink RX9 22 "AerialSurveyModel" "turnNow" "I", .methodLink RX9 65 yX9_size, .static yX9_size, .initialized RX9, .code yX9_size cX9_size 1 (some .int), .methodLink RX9 148 yX9_entryColumn, .instanceMethod yX9_entryColumn, .selects RX9 yX9_entryColumn yX9_entryColumn, .code yX9_entryColumn cX9_entryColumn 2 (some .int), .fieldLink RX9 32 "AerialSurveyModel" "firstOf" "[I", .fieldLink RX9 35 "AerialSurveyModel" "lastOf" "[I", .methodLink RX9 145 yX9_legTime, .instanceMethod yX9_legTime, .selects RX9 yX9_legTime yX9_legTime, .code yX9_legTime cX9_legTime 3 (some .int), .fieldLink RX9 72 "AerialSurveyModel" "tailwindNow" "I"] ++ wsX90)
def wsX9_totalBy : List Cond := .code yX9_totalBy cX9_totalBy 5 (some .int) :: ([.fieldLink RX9 45 "AerialSurveyModel" "rest" "[I", .methodLink RX9 157 yX9_timeBy, .instanceMethod yX9_timeBy, .selects RX9 yX9_timeBy yX9_timeBy, .initialized RX9, .code yX9_timeBy cX9_timeBy 5 (some .int), .fieldLink RX9 29 "AerialSurveyModel" "rowOf" "[I", .fieldLink RX9 19 "AerialSurveyModel" "airspeedNow" "I", .fieldLink RX9 22 "AerialSurveyModel" "turnNow" "I", .methodLink RX9 65 yX9_size, .static yX9_size, .code yX9_size cX9_size 1 (some .int), .methodLink RX9 148 yX9_entryColumn, .instanceMethod yX9_entryColumn, .selects RX9 yX9_entryColumn yX9_entryColumn, .code yX9_entryColumn cX9_entryColumn 2 (some .int), .fieldLink RX9 32 "AerialSurveyModel" "firstOf" "[I", .fieldLink RX9 35 "AerialSurveyModel" "lastOf" "[I", .methodLink RX9 145 yX9_legTime, .instanceMethod yX9_legTime, .selects RX9 yX9_legTime yX9_legTime, .code yX9_legTime cX9_legTime 3 (some .int), .fieldLink RX9 72 "AerialSurveyModel" "tailwindNow" "I"] ++ wsX90)
def wsX9_leastFrom_r1 : List Cond := [Cond.constant RX9 123 (100000000), Cond.fieldLink RX9 58 "AerialSurveyModel" "strips" "I", Cond.methodLink RX9 160 yX9_totalBy, Cond.instanceMethod yX9_totalBy, Cond.selects RX9 yX9_totalBy yX9_totalBy, Cond.initialized RX9, Cond.code yX9_totalBy cX9_totalBy 5 (some .int), Cond.fieldLink RX9 45 "AerialSurveyModel" "rest" "[I", Cond.methodLink RX9 157 yX9_timeBy, Cond.instanceMethod yX9_timeBy, Cond.selects RX9 yX9_timeBy yX9_timeBy, Cond.code yX9_timeBy cX9_timeBy 5 (some .int), Cond.fieldLink RX9 29 "AerialSurveyModel" "rowOf" "[I", Cond.fieldLink RX9 19 "AerialSurveyModel" "airspeedNow" "I", Cond.fieldLink RX9 22 "AerialSurveyModel" "turnNow" "I", Cond.methodLink RX9 65 yX9_size, Cond.static yX9_size, Cond.code yX9_size cX9_size 1 (some .int), Cond.methodLink RX9 148 yX9_entryColumn, Cond.instanceMethod yX9_entryColumn, Cond.selects RX9 yX9_entryColumn yX9_entryColumn, Cond.code yX9_entryColumn cX9_entryColumn 2 (some .int), Cond.fieldLink RX9 32 "AerialSurveyModel" "firstOf" "[I", Cond.fieldLink RX9 35 "AerialSurveyModel" "lastOf" "[I"]
def wsX9_leastFrom_r2 : List Cond := [Cond.methodLink RX9 145 yX9_legTime, Cond.instanceMethod yX9_legTime, Cond.selects RX9 yX9_legTime yX9_legTime, Cond.code yX9_legTime cX9_legTime 3 (some .int), Cond.fieldLink RX9 72 "AerialSurveyModel" "tailwindNow" "I"]
def wsX9_leastFrom : List Cond := .code yX9_leastFrom cX9_leastFrom 7 (some .int) :: ((wsX9_leastFrom_r1 ++ wsX9_leastFrom_r2) ++ wsX90)
def wsX9_findRests_r1 : List Cond := [Cond.fieldLink RX9 58 "AerialSurveyModel" "strips" "I", Cond.fieldLink RX9 45 "AerialSurveyModel" "rest" "[I", Cond.fieldLink RX9 29 "AerialSurveyModel" "rowOf" "[I", Cond.methodLink RX9 151 yX9_exitColumn, Cond.instanceMethod yX9_exitColumn, Cond.selects RX9 yX9_exitColumn yX9_exitColumn, Cond.initialized RX9, Cond.code yX9_exitColumn cX9_exitColumn 2 (some .int), Cond.fieldLink RX9 35 "AerialSurveyModel" "lastOf" "[I", Cond.fieldLink RX9 32 "AerialSurveyModel" "firstOf" "[I", Cond.methodLink RX9 154 yX9_leastFrom, Cond.instanceMethod yX9_leastFrom, Cond.selects RX9 yX9_leastFrom yX9_leastFrom, Cond.code yX9_leastFrom cX9_leastFrom 7 (some .int), Cond.constant RX9 123 (100000000), Cond.methodLink RX9 160 yX9_totalBy, Cond.instanceMethod yX9_totalBy, Cond.selects RX9 yX9_totalBy yX9_totalBy, Cond.code yX9_totalBy cX9_totalBy 5 (some .int), Cond.methodLink RX9 157 yX9_timeBy, Cond.instanceMethod yX9_timeBy, Cond.selects RX9 yX9_timeBy yX9_timeBy, Cond.code yX9_timeBy cX9_timeBy 5 (some .int), Cond.fieldLink RX9 19 "AerialSurveyModel" "airspeedNow" "I"]
def wsX9_findRests_r2 : List Cond := [Cond.fieldLink RX9 22 "AerialSurveyModel" "turnNow" "I", Cond.methodLink RX9 65 yX9_size, Cond.static yX9_size, Cond.code yX9_size cX9_size 1 (some .int), Cond.methodLink RX9 148 yX9_entryColumn, Cond.instanceMethod yX9_entryColumn, Cond.selects RX9 yX9_entryColumn yX9_entryColumn, Cond.code yX9_entryColumn cX9_entryColumn 2 (some .int), Cond.methodLink RX9 145 yX9_legTime, Cond.instanceMethod yX9_legTime, Cond.selects RX9 yX9_legTime yX9_legTime, Cond.code yX9_legTime cX9_legTime 3 (some .int), Cond.fieldLink RX9 72 "AerialSurveyModel" "tailwindNow" "I"]
def wsX9_findRests : List Cond := .code yX9_findRests cX9_findRests 3 none :: ((wsX9_findRests_r1 ++ wsX9_findRests_r2) ++ wsX90)
def wsX9_routeTime_r1 : List Cond := [Cond.fieldLink RX9 58 "AerialSurveyModel" "strips" "I", Cond.methodLink RX9 61 yX9_isCell, Cond.instanceMethod yX9_isCell, Cond.selects RX9 yX9_isCell yX9_isCell, Cond.initialized RX9, Cond.code yX9_isCell cX9_isCell 3 (some .boolean), Cond.fieldLink RX9 48 "AerialSurveyModel" "rows" "I", Cond.fieldLink RX9 51 "AerialSurveyModel" "columns" "I", Cond.methodLink RX9 54 yX9_isBetween, Cond.static yX9_isBetween, Cond.code yX9_isBetween cX9_isBetween 3 (some .boolean), Cond.methodLink RX9 164 yX9_findRests, Cond.instanceMethod yX9_findRests, Cond.selects RX9 yX9_findRests yX9_findRests, Cond.code yX9_findRests cX9_findRests 3 none, Cond.fieldLink RX9 45 "AerialSurveyModel" "rest" "[I", Cond.fieldLink RX9 29 "AerialSurveyModel" "rowOf" "[I", Cond.methodLink RX9 151 yX9_exitColumn, Cond.instanceMethod yX9_exitColumn, Cond.selects RX9 yX9_exitColumn yX9_exitColumn, Cond.code yX9_exitColumn cX9_exitColumn 2 (some .int), Cond.fieldLink RX9 35 "AerialSurveyModel" "lastOf" "[I", Cond.fieldLink RX9 32 "AerialSurveyModel" "firstOf" "[I", Cond.methodLink RX9 154 yX9_leastFrom]
def wsX9_routeTime_r2 : List Cond := [Cond.instanceMethod yX9_leastFrom, Cond.selects RX9 yX9_leastFrom yX9_leastFrom, Cond.code yX9_leastFrom cX9_leastFrom 7 (some .int), Cond.constant RX9 123 (100000000), Cond.methodLink RX9 160 yX9_totalBy, Cond.instanceMethod yX9_totalBy, Cond.selects RX9 yX9_totalBy yX9_totalBy, Cond.code yX9_totalBy cX9_totalBy 5 (some .int), Cond.methodLink RX9 157 yX9_timeBy, Cond.instanceMethod yX9_timeBy, Cond.selects RX9 yX9_timeBy yX9_timeBy, Cond.code yX9_timeBy cX9_timeBy 5 (some .int), Cond.fieldLink RX9 19 "AerialSurveyModel" "airspeedNow" "I", Cond.fieldLink RX9 22 "AerialSurveyModel" "turnNow" "I", Cond.methodLink RX9 65 yX9_size, Cond.static yX9_size, Cond.code yX9_size cX9_size 1 (some .int), Cond.methodLink RX9 148 yX9_entryColumn, Cond.instanceMethod yX9_entryColumn, Cond.selects RX9 yX9_entryColumn yX9_entryColumn, Cond.code yX9_entryColumn cX9_entryColumn 2 (some .int), Cond.methodLink RX9 145 yX9_legTime, Cond.instanceMethod yX9_legTime, Cond.selects RX9 yX9_legTime yX9_legTime]
def wsX9_routeTime_r3 : List Cond := [Cond.code yX9_legTime cX9_legTime 3 (some .int), Cond.fieldLink RX9 72 "AerialSurveyModel" "tailwindNow" "I"]
def wsX9_routeTime : List Cond := .code yX9_routeTime cX9_routeTime 3 (some .int) :: ((wsX9_routeTime_r1 ++ (wsX9_routeTime_r2 ++ wsX9_routeTime_r3)) ++ wsX90)
def wsX9_firstLeg_r1 : List Cond := [Cond.methodLink RX9 154 yX9_leastFrom, Cond.instanceMethod yX9_leastFrom, Cond.selects RX9 yX9_leastFrom yX9_leastFrom, Cond.initialized RX9, Cond.code yX9_leastFrom cX9_leastFrom 7 (some .int), Cond.constant RX9 123 (100000000), Cond.fieldLink RX9 58 "AerialSurveyModel" "strips" "I", Cond.methodLink RX9 160 yX9_totalBy, Cond.instanceMethod yX9_totalBy, Cond.selects RX9 yX9_totalBy yX9_totalBy, Cond.code yX9_totalBy cX9_totalBy 5 (some .int), Cond.fieldLink RX9 45 "AerialSurveyModel" "rest" "[I", Cond.methodLink RX9 157 yX9_timeBy, Cond.instanceMethod yX9_timeBy, Cond.selects RX9 yX9_timeBy yX9_timeBy, Cond.code yX9_timeBy cX9_timeBy 5 (some .int), Cond.fieldLink RX9 29 "AerialSurveyModel" "rowOf" "[I", Cond.fieldLink RX9 19 "AerialSurveyModel" "airspeedNow" "I", Cond.fieldLink RX9 22 "AerialSurveyModel" "turnNow" "I", Cond.methodLink RX9 65 yX9_size, Cond.static yX9_size, Cond.code yX9_size cX9_size 1 (some .int), Cond.methodLink RX9 148 yX9_entryColumn, Cond.instanceMethod yX9_entryColumn]
def wsX9_firstLeg_r2 : List Cond := [Cond.selects RX9 yX9_entryColumn yX9_entryColumn, Cond.code yX9_entryColumn cX9_entryColumn 2 (some .int), Cond.fieldLink RX9 32 "AerialSurveyModel" "firstOf" "[I", Cond.fieldLink RX9 35 "AerialSurveyModel" "lastOf" "[I", Cond.methodLink RX9 145 yX9_legTime, Cond.instanceMethod yX9_legTime, Cond.selects RX9 yX9_legTime yX9_legTime, Cond.code yX9_legTime cX9_legTime 3 (some .int), Cond.fieldLink RX9 72 "AerialSurveyModel" "tailwindNow" "I"]
def wsX9_firstLeg : List Cond := .code yX9_firstLeg cX9_firstLeg 6 (some .int) :: ((wsX9_firstLeg_r1 ++ wsX9_firstLeg_r2) ++ wsX90)
def wsX9_routeStep_r1 : List Cond := [Cond.fieldLink RX9 58 "AerialSurveyModel" "strips" "I", Cond.fieldLink RX9 29 "AerialSurveyModel" "rowOf" "[I", Cond.methodLink RX9 61 yX9_isCell, Cond.instanceMethod yX9_isCell, Cond.selects RX9 yX9_isCell yX9_isCell, Cond.initialized RX9, Cond.code yX9_isCell cX9_isCell 3 (some .boolean), Cond.fieldLink RX9 48 "AerialSurveyModel" "rows" "I", Cond.fieldLink RX9 51 "AerialSurveyModel" "columns" "I", Cond.methodLink RX9 54 yX9_isBetween, Cond.static yX9_isBetween, Cond.code yX9_isBetween cX9_isBetween 3 (some .boolean), Cond.methodLink RX9 164 yX9_findRests, Cond.instanceMethod yX9_findRests, Cond.selects RX9 yX9_findRests yX9_findRests, Cond.code yX9_findRests cX9_findRests 3 none, Cond.fieldLink RX9 45 "AerialSurveyModel" "rest" "[I", Cond.methodLink RX9 151 yX9_exitColumn, Cond.instanceMethod yX9_exitColumn, Cond.selects RX9 yX9_exitColumn yX9_exitColumn, Cond.code yX9_exitColumn cX9_exitColumn 2 (some .int), Cond.fieldLink RX9 35 "AerialSurveyModel" "lastOf" "[I", Cond.fieldLink RX9 32 "AerialSurveyModel" "firstOf" "[I", Cond.methodLink RX9 154 yX9_leastFrom]
def wsX9_routeStep_r2 : List Cond := [Cond.instanceMethod yX9_leastFrom, Cond.selects RX9 yX9_leastFrom yX9_leastFrom, Cond.code yX9_leastFrom cX9_leastFrom 7 (some .int), Cond.constant RX9 123 (100000000), Cond.methodLink RX9 160 yX9_totalBy, Cond.instanceMethod yX9_totalBy, Cond.selects RX9 yX9_totalBy yX9_totalBy, Cond.code yX9_totalBy cX9_totalBy 5 (some .int), Cond.methodLink RX9 157 yX9_timeBy, Cond.instanceMethod yX9_timeBy, Cond.selects RX9 yX9_timeBy yX9_timeBy, Cond.code yX9_timeBy cX9_timeBy 5 (some .int), Cond.fieldLink RX9 19 "AerialSurveyModel" "airspeedNow" "I", Cond.fieldLink RX9 22 "AerialSurveyModel" "turnNow" "I", Cond.methodLink RX9 65 yX9_size, Cond.static yX9_size, Cond.code yX9_size cX9_size 1 (some .int), Cond.methodLink RX9 148 yX9_entryColumn, Cond.instanceMethod yX9_entryColumn, Cond.selects RX9 yX9_entryColumn yX9_entryColumn, Cond.code yX9_entryColumn cX9_entryColumn 2 (some .int), Cond.methodLink RX9 145 yX9_legTime, Cond.instanceMethod yX9_legTime, Cond.selects RX9 yX9_legTime yX9_legTime]
def wsX9_routeStep_r3 : List Cond := [Cond.code yX9_legTime cX9_legTime 3 (some .int), Cond.fieldLink RX9 72 "AerialSurveyModel" "tailwindNow" "I", Cond.methodLink RX9 167 yX9_firstLeg, Cond.instanceMethod yX9_firstLeg, Cond.selects RX9 yX9_firstLeg yX9_firstLeg, Cond.code yX9_firstLeg cX9_firstLeg 6 (some .int)]
def wsX9_routeStep : List Cond := .code yX9_routeStep cX9_routeStep 7 (some .int) :: ((wsX9_routeStep_r1 ++ (wsX9_routeStep_r2 ++ wsX9_routeStep_r3)) ++ wsX90)
def wsJ9_abs_0f7a4 : List Cond := .code yJ9_abs_0f7a4 cJ9_abs_0f7a4 1 (some .int) :: ([])
def wsJ9_max_7cf53 : List Cond := .code yJ9_max_7cf53 cJ9_max_7cf53 2 (some .int) :: ([])
def wsJ9_min_7cf53 : List Cond := .code yJ9_min_7cf53 cJ9_min_7cf53 2 (some .int) :: ([])
def wsL_law_r1 : List Cond := [Cond.classLink RL 7 RX8, Cond.instantiable RX8 7, Cond.initialized RX8, Cond.classLink RL 10 RX9, Cond.instantiable RX9 20, Cond.initialized RX9, Cond.methodLink RL 9 yX8_init, Cond.instanceMethod yX8_init, Cond.code yX8_init cX8_init 1 none, Cond.methodLink RX8 1 objectInit, Cond.instanceMethod objectInit, Cond.code objectInit ⟨#[0xb1]⟩ 1 none, Cond.classLink RX8 7 RX7, Cond.instantiable RX7 3, Cond.initialized RX7, Cond.fieldLink RX8 10 "AerialSurvey" "terrain" "LAerialSurvey$Terrain;", Cond.classLink RX8 16 RX1, Cond.instantiable RX1 4, Cond.initialized RX1, Cond.fieldLink RX8 19 "AerialSurvey" "camera" "LAerialSurvey$Camera;", Cond.classLink RX8 23 RX0, Cond.instantiable RX0 3, Cond.initialized RX0, Cond.fieldLink RX8 26 "AerialSurvey" "aircraft" "LAerialSurvey$Aircraft;"]
def wsL_law_r2 : List Cond := [Cond.classLink RX8 30 RX6, Cond.instantiable RX6 2, Cond.initialized RX6, Cond.fieldLink RX8 33 "AerialSurvey" "strips" "LAerialSurvey$StripList;", Cond.classLink RX8 37 RX2, Cond.instantiable RX2 3, Cond.initialized RX2, Cond.fieldLink RX8 40 "AerialSurvey" "overlap" "LAerialSurvey$Overlap;", Cond.classLink RX8 44 RX3, Cond.instantiable RX3 4, Cond.initialized RX3, Cond.fieldLink RX8 47 "AerialSurvey" "planner" "LAerialSurvey$Planner;", Cond.classLink RX8 51 RX4, Cond.instantiable RX4 3, Cond.initialized RX4, Cond.fieldLink RX8 54 "AerialSurvey" "router" "LAerialSurvey$Router;", Cond.methodLink RX8 9 yX7_init, Cond.instanceMethod yX7_init, Cond.code yX7_init cX7_init 1 none, Cond.methodLink RX7 3 objectInit, Cond.fieldLink RX7 9 "AerialSurvey$Terrain" "rows" "I", Cond.fieldLink RX7 15 "AerialSurvey$Terrain" "columns" "I", Cond.arrayClass .int, Cond.fieldLink RX7 18 "AerialSurvey$Terrain" "heights" "[I"]
def wsL_law_r3 : List Cond := [Cond.methodLink RX8 18 yX1_init, Cond.instanceMethod yX1_init, Cond.code yX1_init cX1_init 1 none, Cond.methodLink RX1 1 objectInit, Cond.fieldLink RX1 7 "AerialSurvey$Camera" "altitude" "I", Cond.fieldLink RX1 13 "AerialSurvey$Camera" "alongField" "I", Cond.fieldLink RX1 16 "AerialSurvey$Camera" "acrossField" "I", Cond.fieldLink RX1 19 "AerialSurvey$Camera" "crab" "I", Cond.methodLink RX8 25 yX0_init, Cond.instanceMethod yX0_init, Cond.code yX0_init cX0_init 1 none, Cond.methodLink RX0 1 objectInit, Cond.fieldLink RX0 7 "AerialSurvey$Aircraft" "airspeed" "I", Cond.fieldLink RX0 13 "AerialSurvey$Aircraft" "tailwind" "I", Cond.fieldLink RX0 16 "AerialSurvey$Aircraft" "turnTime" "I", Cond.methodLink RX8 32 yX6_init, Cond.instanceMethod yX6_init, Cond.code yX6_init cX6_init 2 none, Cond.methodLink RX6 3 objectInit, Cond.classLink RX6 9 RX5, Cond.fieldLink RX6 11 "AerialSurvey$StripList" "strips" "[LAerialSurvey$Strip;", Cond.instantiable RX5 4, Cond.initialized RX5, Cond.instanceMethod yX5_init]
def wsL_law_r4 : List Cond := [Cond.code yX5_init cX5_init 1 none, Cond.methodLink RX5 1 objectInit, Cond.instanceMethod yX2_init, Cond.code yX2_init cX2_init 1 none, Cond.methodLink RX2 1 objectInit, Cond.methodLink RX8 46 yX3_init, Cond.instanceMethod yX3_init, Cond.code yX3_init cX3_init 1 none, Cond.methodLink RX3 1 objectInit, Cond.classLink RX3 7 RX6, Cond.fieldLink RX3 10 "AerialSurvey$Planner" "trial" "LAerialSurvey$StripList;", Cond.methodLink RX3 9 yX6_init, Cond.methodLink RX8 53 yX4_init, Cond.instanceMethod yX4_init, Cond.code yX4_init cX4_init 1 none, Cond.methodLink RX4 3 objectInit, Cond.fieldLink RX4 11 "AerialSurvey$Router" "timeLeft" "[I", Cond.methodLink RL 12 yX9_init, Cond.instanceMethod yX9_init, Cond.code yX9_init cX9_init 1 none, Cond.methodLink RX9 1 objectInit, Cond.fieldLink RX9 7 "AerialSurveyModel" "altitude" "I", Cond.fieldLink RX9 13 "AerialSurveyModel" "along" "I", Cond.fieldLink RX9 16 "AerialSurveyModel" "across" "I"]
def wsL_law_r5 : List Cond := [Cond.fieldLink RX9 19 "AerialSurveyModel" "airspeedNow" "I", Cond.fieldLink RX9 22 "AerialSurveyModel" "turnNow" "I", Cond.fieldLink RX9 25 "AerialSurveyModel" "ground" "[I", Cond.fieldLink RX9 29 "AerialSurveyModel" "rowOf" "[I", Cond.fieldLink RX9 32 "AerialSurveyModel" "firstOf" "[I", Cond.fieldLink RX9 35 "AerialSurveyModel" "lastOf" "[I", Cond.fieldLink RX9 38 "AerialSurveyModel" "spacingOf" "[I", Cond.arrayClass .boolean, Cond.fieldLink RX9 41 "AerialSurveyModel" "seenFrom" "[Z", Cond.fieldLink RX9 45 "AerialSurveyModel" "rest" "[I", Cond.fieldLink RX9 48 "AerialSurveyModel" "rows" "I", Cond.fieldLink RX9 51 "AerialSurveyModel" "columns" "I", Cond.methodLink RL 13 yX8_resize, Cond.instanceMethod yX8_resize, Cond.selects RX8 yX8_resize yX8_resize, Cond.code yX8_resize cX8_resize 3 (some .int), Cond.methodLink RX8 58 yX8_isWithin, Cond.static yX8_isWithin, Cond.code yX8_isWithin cX8_isWithin 3 (some .boolean), Cond.methodLink RX8 62 yX7_flatten, Cond.instanceMethod yX7_flatten, Cond.selects RX7 yX7_flatten yX7_flatten, Cond.code yX7_flatten cX7_flatten 4 none, Cond.methodLink RX8 66 yX6_clear]
def wsL_law_r6 : List Cond := [Cond.instanceMethod yX6_clear, Cond.selects RX6 yX6_clear yX6_clear, Cond.code yX6_clear cX6_clear 1 none, Cond.fieldLink RX6 18 "AerialSurvey$StripList" "count" "I", Cond.methodLink RL 17 yX9_resize, Cond.instanceMethod yX9_resize, Cond.selects RX9 yX9_resize yX9_resize, Cond.code yX9_resize cX9_resize 4 (some .int), Cond.fieldLink RX9 58 "AerialSurveyModel" "strips" "I", Cond.methodLink RX9 54 yX9_isBetween, Cond.static yX9_isBetween, Cond.code yX9_isBetween cX9_isBetween 3 (some .boolean), Cond.methodLink RL 18 yX8_setHeight, Cond.instanceMethod yX8_setHeight, Cond.selects RX8 yX8_setHeight yX8_setHeight, Cond.code yX8_setHeight cX8_setHeight 5 (some .int), Cond.methodLink RX8 69 yX7_contains, Cond.instanceMethod yX7_contains, Cond.selects RX7 yX7_contains yX7_contains, Cond.code yX7_contains cX7_contains 3 (some .boolean), Cond.methodLink RX8 73 yX7_heightAt, Cond.instanceMethod yX7_heightAt, Cond.selects RX7 yX7_heightAt yX7_heightAt, Cond.code yX7_heightAt cX7_heightAt 4 (some .int)]
def wsL_law_r7 : List Cond := [Cond.methodLink RX8 77 yX7_put, Cond.instanceMethod yX7_put, Cond.selects RX7 yX7_put yX7_put, Cond.code yX7_put cX7_put 5 none, Cond.methodLink RL 22 yX9_setHeight, Cond.instanceMethod yX9_setHeight, Cond.selects RX9 yX9_setHeight yX9_setHeight, Cond.code yX9_setHeight cX9_setHeight 5 (some .int), Cond.methodLink RX9 61 yX9_isCell, Cond.instanceMethod yX9_isCell, Cond.selects RX9 yX9_isCell yX9_isCell, Cond.code yX9_isCell cX9_isCell 3 (some .boolean), Cond.methodLink RL 23 yX8_raiseHill, Cond.instanceMethod yX8_raiseHill, Cond.selects RX8 yX8_raiseHill yX8_raiseHill, Cond.code yX8_raiseHill cX8_raiseHill 5 (some .int), Cond.methodLink RX8 81 yX7_raise, Cond.instanceMethod yX7_raise, Cond.selects RX7 yX7_raise yX7_raise, Cond.code yX7_raise cX7_raise 12 (some .int), Cond.methodLink RX7 22 Lib.Math.abs.name, Cond.static Lib.Math.abs.name, Cond.initialized "java/lang/Math", Cond.code Lib.Math.abs.name Lib.Math.abs.code 1 (some .int)]
def wsL_law_r8 : List Cond := [Cond.methodLink RX7 28 Lib.Math.max.name, Cond.static Lib.Math.max.name, Cond.code Lib.Math.max.name Lib.Math.max.code 2 (some .int), Cond.methodLink RX7 38 Lib.Math.min.name, Cond.static Lib.Math.min.name, Cond.code Lib.Math.min.name Lib.Math.min.code 2 (some .int), Cond.static yX8_quotient, Cond.code yX8_quotient cX8_quotient 2 (some .int), Cond.methodLink RX7 35 yX7_heightAt, Cond.methodLink RX7 41 yX7_put, Cond.methodLink RL 27 yX9_raiseHill, Cond.instanceMethod yX9_raiseHill, Cond.selects RX9 yX9_raiseHill yX9_raiseHill, Cond.code yX9_raiseHill cX9_raiseHill 10 (some .int), Cond.methodLink RX9 65 yX9_size, Cond.static yX9_size, Cond.code yX9_size cX9_size 1 (some .int), Cond.methodLink RL 28 yX8_height, Cond.instanceMethod yX8_height, Cond.selects RX8 yX8_height yX8_height, Cond.code yX8_height cX8_height 3 (some .int), Cond.methodLink RL 31 yX9_height, Cond.instanceMethod yX9_height, Cond.selects RX9 yX9_height yX9_height]
def wsL_law_r9 : List Cond := [Cond.code yX9_height cX9_height 3 (some .int), Cond.methodLink RL 32 yX8_setAltitude, Cond.instanceMethod yX8_setAltitude, Cond.selects RX8 yX8_setAltitude yX8_setAltitude, Cond.code yX8_setAltitude cX8_setAltitude 3 (some .int), Cond.fieldLink RX8 85 "AerialSurvey$Camera" "altitude" "I", Cond.methodLink RL 36 yX9_setAltitude, Cond.instanceMethod yX9_setAltitude, Cond.selects RX9 yX9_setAltitude yX9_setAltitude, Cond.code yX9_setAltitude cX9_setAltitude 3 (some .int), Cond.methodLink RL 37 yX8_setFields, Cond.instanceMethod yX8_setFields, Cond.selects RX8 yX8_setFields yX8_setFields, Cond.code yX8_setFields cX8_setFields 4 (some .int), Cond.fieldLink RX8 89 "AerialSurvey$Camera" "alongField" "I", Cond.fieldLink RX8 92 "AerialSurvey$Camera" "acrossField" "I", Cond.methodLink RL 40 yX9_setFields, Cond.instanceMethod yX9_setFields, Cond.selects RX9 yX9_setFields yX9_setFields, Cond.code yX9_setFields cX9_setFields 4 (some .int), Cond.methodLink RL 41 yX8_setCrab, Cond.instanceMethod yX8_setCrab, Cond.selects RX8 yX8_setCrab yX8_setCrab, Cond.code yX8_setCrab cX8_setCrab 3 (some .int)]
def wsL_law_r10 : List Cond := [Cond.fieldLink RX8 95 "AerialSurvey$Camera" "crab" "I", Cond.methodLink RL 44 yX9_setCrab, Cond.instanceMethod yX9_setCrab, Cond.selects RX9 yX9_setCrab yX9_setCrab, Cond.code yX9_setCrab cX9_setCrab 3 (some .int), Cond.fieldLink RX9 69 "AerialSurveyModel" "crabNow" "I", Cond.methodLink RL 45 yX8_setSpeed, Cond.instanceMethod yX8_setSpeed, Cond.selects RX8 yX8_setSpeed yX8_setSpeed, Cond.code yX8_setSpeed cX8_setSpeed 5 (some .int), Cond.fieldLink RX8 98 "AerialSurvey$Aircraft" "airspeed" "I", Cond.fieldLink RX8 101 "AerialSurvey$Aircraft" "tailwind" "I", Cond.fieldLink RX8 104 "AerialSurvey$Aircraft" "turnTime" "I", Cond.methodLink RL 48 yX9_setSpeed, Cond.instanceMethod yX9_setSpeed, Cond.selects RX9 yX9_setSpeed yX9_setSpeed, Cond.code yX9_setSpeed cX9_setSpeed 5 (some .int), Cond.fieldLink RX9 72 "AerialSurveyModel" "tailwindNow" "I", Cond.methodLink RL 49 yX8_addStrip, Cond.instanceMethod yX8_addStrip, Cond.selects RX8 yX8_addStrip yX8_addStrip, Cond.code yX8_addStrip cX8_addStrip 5 (some .int), Cond.methodLink RX8 107 yX6_add, Cond.instanceMethod yX6_add]
def wsL_law_r11 : List Cond := [Cond.selects RX6 yX6_add yX6_add, Cond.code yX6_add cX6_add 5 (some .int), Cond.methodLink RX6 22 yX5_put, Cond.instanceMethod yX5_put, Cond.selects RX5 yX5_put yX5_put, Cond.code yX5_put cX5_put 5 none, Cond.fieldLink RX5 7 "AerialSurvey$Strip" "row" "I", Cond.fieldLink RX5 13 "AerialSurvey$Strip" "first" "I", Cond.fieldLink RX5 16 "AerialSurvey$Strip" "last" "I", Cond.fieldLink RX5 19 "AerialSurvey$Strip" "spacing" "I", Cond.methodLink RL 52 yX9_addStrip, Cond.instanceMethod yX9_addStrip, Cond.selects RX9 yX9_addStrip yX9_addStrip, Cond.code yX9_addStrip cX9_addStrip 5 (some .int), Cond.methodLink RX9 75 yX9_put, Cond.instanceMethod yX9_put, Cond.selects RX9 yX9_put yX9_put, Cond.code yX9_put cX9_put 5 none, Cond.methodLink RL 53 yX8_removeStrip, Cond.instanceMethod yX8_removeStrip, Cond.selects RX8 yX8_removeStrip yX8_removeStrip, Cond.code yX8_removeStrip cX8_removeStrip 2 (some .int), Cond.fieldLink RX8 118 "AerialSurvey$StripList" "count" "I", Cond.methodLink RX8 110 yX6_find]
def wsL_law_r12 : List Cond := [Cond.instanceMethod yX6_find, Cond.selects RX6 yX6_find yX6_find, Cond.code yX6_find cX6_find 2 (some (.object "AerialSurvey$Strip")), Cond.methodLink RX8 114 yX6_remove, Cond.instanceMethod yX6_remove, Cond.selects RX6 yX6_remove yX6_remove, Cond.code yX6_remove cX6_remove 4 none, Cond.fieldLink RX6 30 "AerialSurvey$Strip" "row" "I", Cond.fieldLink RX6 33 "AerialSurvey$Strip" "first" "I", Cond.fieldLink RX6 36 "AerialSurvey$Strip" "last" "I", Cond.fieldLink RX6 39 "AerialSurvey$Strip" "spacing" "I", Cond.methodLink RX6 26 yX6_find, Cond.methodLink RL 56 yX9_removeStrip, Cond.instanceMethod yX9_removeStrip, Cond.selects RX9 yX9_removeStrip yX9_removeStrip, Cond.code yX9_removeStrip cX9_removeStrip 3 (some .int), Cond.methodLink RX9 79 yX9_isStrip, Cond.instanceMethod yX9_isStrip, Cond.selects RX9 yX9_isStrip yX9_isStrip, Cond.code yX9_isStrip cX9_isStrip 2 (some .boolean), Cond.methodLink RL 57 yX8_stripCount, Cond.instanceMethod yX8_stripCount, Cond.selects RX8 yX8_stripCount yX8_stripCount, Cond.code yX8_stripCount cX8_stripCount 1 (some .int)]
def wsL_law_r13 : List Cond := [Cond.methodLink RL 61 yX9_stripCount, Cond.instanceMethod yX9_stripCount, Cond.selects RX9 yX9_stripCount yX9_stripCount, Cond.code yX9_stripCount cX9_stripCount 1 (some .int), Cond.methodLink RL 62 yX8_photoCount, Cond.instanceMethod yX8_photoCount, Cond.selects RX8 yX8_photoCount yX8_photoCount, Cond.code yX8_photoCount cX8_photoCount 3 (some .int), Cond.methodLink RX8 121 yX5_photos, Cond.instanceMethod yX5_photos, Cond.selects RX5 yX5_photos yX5_photos, Cond.code yX5_photos cX5_photos 1 (some .int), Cond.methodLink RL 65 yX9_photoCount, Cond.instanceMethod yX9_photoCount, Cond.selects RX9 yX9_photoCount yX9_photoCount, Cond.code yX9_photoCount cX9_photoCount 2 (some .int), Cond.methodLink RX9 83 yX9_photosOf, Cond.instanceMethod yX9_photosOf, Cond.selects RX9 yX9_photosOf yX9_photosOf, Cond.code yX9_photosOf cX9_photosOf 2 (some .int), Cond.methodLink RL 66 yX8_photoColumn, Cond.instanceMethod yX8_photoColumn, Cond.selects RX8 yX8_photoColumn yX8_photoColumn, Cond.code yX8_photoColumn cX8_photoColumn 4 (some .int)]
def wsL_law_r14 : List Cond := [Cond.methodLink RX8 127 yX5_hasPhoto, Cond.instanceMethod yX5_hasPhoto, Cond.selects RX5 yX5_hasPhoto yX5_hasPhoto, Cond.code yX5_hasPhoto cX5_hasPhoto 2 (some .boolean), Cond.methodLink RX5 28 yX5_photos, Cond.methodLink RX8 131 yX5_columnOf, Cond.instanceMethod yX5_columnOf, Cond.selects RX5 yX5_columnOf yX5_columnOf, Cond.code yX5_columnOf cX5_columnOf 2 (some .int), Cond.methodLink RL 69 yX9_photoColumn, Cond.instanceMethod yX9_photoColumn, Cond.selects RX9 yX9_photoColumn yX9_photoColumn, Cond.code yX9_photoColumn cX9_photoColumn 4 (some .int), Cond.methodLink RX9 86 yX9_checkPhoto, Cond.instanceMethod yX9_checkPhoto, Cond.selects RX9 yX9_checkPhoto yX9_checkPhoto, Cond.code yX9_checkPhoto cX9_checkPhoto 3 (some .int), Cond.methodLink RX9 90 yX9_columnOf, Cond.instanceMethod yX9_columnOf, Cond.selects RX9 yX9_columnOf yX9_columnOf, Cond.code yX9_columnOf cX9_columnOf 3 (some .int), Cond.methodLink RL 70 yX8_seesCell, Cond.instanceMethod yX8_seesCell, Cond.selects RX8 yX8_seesCell yX8_seesCell]
def wsL_law_r15 : List Cond := [Cond.code yX8_seesCell cX8_seesCell 6 (some .int), Cond.fieldLink RX8 135 "AerialSurvey$Strip" "row" "I", Cond.methodLink RX8 138 yX1_sees, Cond.instanceMethod yX1_sees, Cond.selects RX1 yX1_sees yX1_sees, Cond.code yX1_sees cX1_sees 9 (some .boolean), Cond.methodLink RX1 28 Lib.Math.abs.name, Cond.methodLink RX1 22 yX7_heightAt, Cond.methodLink RX1 34 yX1_isLineFree, Cond.instanceMethod yX1_isLineFree, Cond.selects RX1 yX1_isLineFree yX1_isLineFree, Cond.code yX1_isLineFree cX1_isLineFree 14 (some .boolean), Cond.methodLink RX1 38 Lib.Math.max.name, Cond.methodLink RX1 41 yJ9_floorDiv_7cf53, Cond.static yJ9_floorDiv_7cf53, Cond.initialized RJ9, Cond.code yJ9_floorDiv_7cf53 cJ9_floorDiv_7cf53 3 (some .int), Cond.methodLink RL 73 yX9_seesCell, Cond.instanceMethod yX9_seesCell, Cond.selects RX9 yX9_seesCell yX9_seesCell, Cond.code yX9_seesCell cX9_seesCell 6 (some .int), Cond.methodLink RX9 100 yX9_sees, Cond.instanceMethod yX9_sees, Cond.selects RX9 yX9_sees yX9_sees]
def wsL_law_r16 : List Cond := [Cond.code yX9_sees cX9_sees 8 (some .boolean), Cond.methodLink RX9 96 yX9_isBlocked, Cond.instanceMethod yX9_isBlocked, Cond.selects RX9 yX9_isBlocked yX9_isBlocked, Cond.code yX9_isBlocked cX9_isBlocked 10 (some .boolean), Cond.methodLink RX9 93 yX9_nearest, Cond.static yX9_nearest, Cond.code yX9_nearest cX9_nearest 5 (some .int), Cond.methodLink RL 74 yX8_footprintSize, Cond.instanceMethod yX8_footprintSize, Cond.selects RX8 yX8_footprintSize yX8_footprintSize, Cond.code yX8_footprintSize cX8_footprintSize 8 (some .int), Cond.fieldLink RX8 142 "AerialSurvey$Terrain" "rows" "I", Cond.fieldLink RX8 145 "AerialSurvey$Terrain" "columns" "I", Cond.methodLink RL 77 yX9_footprintSize, Cond.instanceMethod yX9_footprintSize, Cond.selects RX9 yX9_footprintSize yX9_footprintSize, Cond.code yX9_footprintSize cX9_footprintSize 4 (some .int), Cond.methodLink RX9 107 yX9_footprint, Cond.instanceMethod yX9_footprint, Cond.selects RX9 yX9_footprint yX9_footprint, Cond.code yX9_footprint cX9_footprint 5 (some .int), Cond.methodLink RX9 104 yX9_photoSees, Cond.instanceMethod yX9_photoSees]
def wsL_law_r17 : List Cond := [Cond.selects RX9 yX9_photoSees yX9_photoSees, Cond.code yX9_photoSees cX9_photoSees 4 (some .boolean), Cond.methodLink RL 78 yX8_coverage, Cond.instanceMethod yX8_coverage, Cond.selects RX8 yX8_coverage yX8_coverage, Cond.code yX8_coverage cX8_coverage 3 (some .int), Cond.constant RX8 150 (2147483647), Cond.methodLink RX8 151 yX6_views, Cond.instanceMethod yX6_views, Cond.selects RX6 yX6_views yX6_views, Cond.code yX6_views cX6_views 11 (some .int), Cond.methodLink RX6 61 yX5_photos, Cond.methodLink RX6 65 yX5_columnOf, Cond.methodLink RX6 69 yX1_sees, Cond.methodLink RL 81 yX9_coverage, Cond.instanceMethod yX9_coverage, Cond.selects RX9 yX9_coverage yX9_coverage, Cond.code yX9_coverage cX9_coverage 3 (some .int), Cond.methodLink RX9 110 yX9_coverageOf, Cond.instanceMethod yX9_coverageOf, Cond.selects RX9 yX9_coverageOf yX9_coverageOf, Cond.code yX9_coverageOf cX9_coverageOf 5 (some .int), Cond.methodLink RL 82 yX8_gapCount, Cond.instanceMethod yX8_gapCount]
def wsL_law_r18 : List Cond := [Cond.selects RX8 yX8_gapCount yX8_gapCount, Cond.code yX8_gapCount cX8_gapCount 5 (some .int), Cond.methodLink RL 85 yX9_gapCount, Cond.instanceMethod yX9_gapCount, Cond.selects RX9 yX9_gapCount yX9_gapCount, Cond.code yX9_gapCount cX9_gapCount 4 (some .int), Cond.methodLink RX9 113 yX9_isRequired, Cond.static yX9_isRequired, Cond.code yX9_isRequired cX9_isRequired 1 (some .boolean), Cond.methodLink RL 86 yX8_gapAt, Cond.instanceMethod yX8_gapAt, Cond.selects RX8 yX8_gapAt yX8_gapAt, Cond.code yX8_gapAt cX8_gapAt 6 (some .int), Cond.methodLink RL 89 yX9_gapAt, Cond.instanceMethod yX9_gapAt, Cond.selects RX9 yX9_gapAt yX9_gapAt, Cond.code yX9_gapAt cX9_gapAt 5 (some .int), Cond.methodLink RL 90 yX8_forwardOverlap, Cond.instanceMethod yX8_forwardOverlap, Cond.selects RX8 yX8_forwardOverlap yX8_forwardOverlap, Cond.code yX8_forwardOverlap cX8_forwardOverlap 8 (some .int), Cond.methodLink RX8 155 yX2_clear, Cond.instanceMethod yX2_clear, Cond.selects RX2 yX2_clear yX2_clear]
def wsL_law_r19 : List Cond := [Cond.code yX2_clear cX2_clear 1 none, Cond.fieldLink RX2 7 "AerialSurvey$Overlap" "one" "I", Cond.fieldLink RX2 13 "AerialSurvey$Overlap" "other" "I", Cond.fieldLink RX2 16 "AerialSurvey$Overlap" "both" "I", Cond.methodLink RX8 156 yX2_countCell, Cond.instanceMethod yX2_countCell, Cond.selects RX2 yX2_countCell yX2_countCell, Cond.code yX2_countCell cX2_countCell 3 none, Cond.methodLink RX8 160 yX2_percent, Cond.instanceMethod yX2_percent, Cond.selects RX2 yX2_percent yX2_percent, Cond.code yX2_percent cX2_percent 1 (some .int), Cond.methodLink RX2 19 Lib.Math.min.name, Cond.methodLink RL 93 yX9_forwardOverlap, Cond.instanceMethod yX9_forwardOverlap, Cond.selects RX9 yX9_forwardOverlap yX9_forwardOverlap, Cond.code yX9_forwardOverlap cX9_forwardOverlap 6 (some .int), Cond.methodLink RX9 116 yX9_percent, Cond.static yX9_percent, Cond.code yX9_percent cX9_percent 4 (some .int), Cond.methodLink RL 94 yX8_sideOverlap, Cond.instanceMethod yX8_sideOverlap, Cond.selects RX8 yX8_sideOverlap yX8_sideOverlap, Cond.code yX8_sideOverlap cX8_sideOverlap 7 (some .int)]
def wsL_law_r20 : List Cond := [Cond.methodLink RX8 163 yX5_sees, Cond.instanceMethod yX5_sees, Cond.selects RX5 yX5_sees yX5_sees, Cond.code yX5_sees cX5_sees 7 (some .boolean), Cond.methodLink RX5 32 yX5_columnOf, Cond.methodLink RX5 36 yX1_sees, Cond.methodLink RL 97 yX9_sideOverlap, Cond.instanceMethod yX9_sideOverlap, Cond.selects RX9 yX9_sideOverlap yX9_sideOverlap, Cond.code yX9_sideOverlap cX9_sideOverlap 9 (some .int), Cond.methodLink RX9 120 yX9_stripSees, Cond.instanceMethod yX9_stripSees, Cond.selects RX9 yX9_stripSees yX9_stripSees, Cond.code yX9_stripSees cX9_stripSees 4 (some .boolean), Cond.methodLink RL 98 yX8_planPhotos, Cond.instanceMethod yX8_planPhotos, Cond.selects RX8 yX8_planPhotos yX8_planPhotos, Cond.code yX8_planPhotos cX8_planPhotos 2 (some .int), Cond.fieldLink RX8 170 "AerialSurvey$Planner" "photos" "I", Cond.methodLink RX8 166 yX3_search, Cond.instanceMethod yX3_search, Cond.selects RX3 yX3_search yX3_search, Cond.code yX3_search cX3_search 7 (some .boolean), Cond.fieldLink RX3 16 "AerialSurvey$Terrain" "rows" "I"]
def wsL_law_r21 : List Cond := [Cond.fieldLink RX3 22 "AerialSurvey$Terrain" "columns" "I", Cond.fieldLink RX3 33 "AerialSurvey$Planner" "photos" "I", Cond.fieldLink RX3 40 "AerialSurvey$Planner" "rowSpacing" "I", Cond.fieldLink RX3 43 "AerialSurvey$Planner" "photoSpacing" "I", Cond.methodLink RX3 25 yX6_layOut, Cond.instanceMethod yX6_layOut, Cond.selects RX6 yX6_layOut yX6_layOut, Cond.code yX6_layOut cX6_layOut 7 (some .boolean), Cond.fieldLink RX6 42 "AerialSurvey$Terrain" "rows" "I", Cond.fieldLink RX6 54 "AerialSurvey$Terrain" "columns" "I", Cond.methodLink RX6 51 yX6_clear, Cond.methodLink RX6 57 yX6_add, Cond.methodLink RX3 29 yX6_photoTotal, Cond.instanceMethod yX6_photoTotal, Cond.selects RX6 yX6_photoTotal yX6_photoTotal, Cond.code yX6_photoTotal cX6_photoTotal 3 (some .int), Cond.methodLink RX3 36 yX6_leavesGap, Cond.instanceMethod yX6_leavesGap, Cond.selects RX6 yX6_leavesGap yX6_leavesGap, Cond.code yX6_leavesGap cX6_leavesGap 6 (some .boolean), Cond.methodLink RX6 75 yX6_views, Cond.methodLink RL 101 yX9_planPhotos, Cond.instanceMethod yX9_planPhotos, Cond.selects RX9 yX9_planPhotos yX9_planPhotos]
def wsL_law_r22 : List Cond := [Cond.code yX9_planPhotos cX9_planPhotos 2 (some .int), Cond.fieldLink RX9 130 "AerialSurveyModel" "planPhotos" "I", Cond.methodLink RX9 142 yX9_findPlan, Cond.instanceMethod yX9_findPlan, Cond.selects RX9 yX9_findPlan yX9_findPlan, Cond.code yX9_findPlan cX9_findPlan 6 (some .boolean), Cond.constant RX9 123 (100000000), Cond.fieldLink RX9 136 "AerialSurveyModel" "planRows" "I", Cond.fieldLink RX9 139 "AerialSurveyModel" "planSpacing" "I", Cond.methodLink RX9 127 yX9_layOutVisibility, Cond.instanceMethod yX9_layOutVisibility, Cond.selects RX9 yX9_layOutVisibility yX9_layOutVisibility, Cond.code yX9_layOutVisibility cX9_layOutVisibility 4 none, Cond.methodLink RX9 133 yX9_photosBy, Cond.instanceMethod yX9_photosBy, Cond.selects RX9 yX9_photosBy yX9_photosBy, Cond.code yX9_photosBy cX9_photosBy 6 (some .int), Cond.methodLink RX9 124 yX9_isCovered, Cond.instanceMethod yX9_isCovered, Cond.selects RX9 yX9_isCovered yX9_isCovered, Cond.code yX9_isCovered cX9_isCovered 8 (some .boolean), Cond.methodLink RL 102 yX8_planRowSpacing, Cond.instanceMethod yX8_planRowSpacing, Cond.selects RX8 yX8_planRowSpacing yX8_planRowSpacing]
def wsL_law_r23 : List Cond := [Cond.code yX8_planRowSpacing cX8_planRowSpacing 2 (some .int), Cond.fieldLink RX8 172 "AerialSurvey$Planner" "rowSpacing" "I", Cond.methodLink RL 105 yX9_planRowSpacing, Cond.instanceMethod yX9_planRowSpacing, Cond.selects RX9 yX9_planRowSpacing yX9_planRowSpacing, Cond.code yX9_planRowSpacing cX9_planRowSpacing 2 (some .int), Cond.methodLink RL 106 yX8_planPhotoSpacing, Cond.instanceMethod yX8_planPhotoSpacing, Cond.selects RX8 yX8_planPhotoSpacing yX8_planPhotoSpacing, Cond.code yX8_planPhotoSpacing cX8_planPhotoSpacing 2 (some .int), Cond.fieldLink RX8 175 "AerialSurvey$Planner" "photoSpacing" "I", Cond.methodLink RL 109 yX9_planPhotoSpacing, Cond.instanceMethod yX9_planPhotoSpacing, Cond.selects RX9 yX9_planPhotoSpacing yX9_planPhotoSpacing, Cond.code yX9_planPhotoSpacing cX9_planPhotoSpacing 2 (some .int), Cond.methodLink RL 110 yX8_applyPlan, Cond.instanceMethod yX8_applyPlan, Cond.selects RX8 yX8_applyPlan yX8_applyPlan, Cond.code yX8_applyPlan cX8_applyPlan 2 (some .int), Cond.methodLink RX8 178 yX6_layOut, Cond.methodLink RL 113 yX9_applyPlan, Cond.instanceMethod yX9_applyPlan, Cond.selects RX9 yX9_applyPlan yX9_applyPlan, Cond.code yX9_applyPlan cX9_applyPlan 3 (some .int)]
def wsL_law_r24 : List Cond := [Cond.methodLink RL 114 yX8_stripTime, Cond.instanceMethod yX8_stripTime, Cond.selects RX8 yX8_stripTime yX8_stripTime, Cond.code yX8_stripTime cX8_stripTime 4 (some .int), Cond.methodLink RX8 182 yX0_flightTime, Cond.instanceMethod yX0_flightTime, Cond.selects RX0 yX0_flightTime yX0_flightTime, Cond.code yX0_flightTime cX0_flightTime 4 (some .int), Cond.fieldLink RX0 19 "AerialSurvey$Strip" "last" "I", Cond.fieldLink RX0 24 "AerialSurvey$Strip" "first" "I", Cond.methodLink RL 118 yX9_stripTime, Cond.instanceMethod yX9_stripTime, Cond.selects RX9 yX9_stripTime yX9_stripTime, Cond.code yX9_stripTime cX9_stripTime 3 (some .int), Cond.methodLink RX9 145 yX9_legTime, Cond.instanceMethod yX9_legTime, Cond.selects RX9 yX9_legTime yX9_legTime, Cond.code yX9_legTime cX9_legTime 3 (some .int), Cond.methodLink RL 119 yX8_routeTime, Cond.instanceMethod yX8_routeTime, Cond.selects RX8 yX8_routeTime yX8_routeTime, Cond.code yX8_routeTime cX8_routeTime 3 (some .int), Cond.methodLink RX8 186 yX4_fastestTime, Cond.instanceMethod yX4_fastestTime]
def wsL_law_r25 : List Cond := [Cond.selects RX4 yX4_fastestTime yX4_fastestTime, Cond.code yX4_fastestTime cX4_fastestTime 5 (some .int), Cond.fieldLink RX4 19 "AerialSurvey$StripList" "count" "I", Cond.fieldLink RX4 29 "AerialSurvey$Router" "chosenTime" "I", Cond.methodLink RX4 15 yX4_fillTimes, Cond.instanceMethod yX4_fillTimes, Cond.selects RX4 yX4_fillTimes yX4_fillTimes, Cond.code yX4_fillTimes cX4_fillTimes 7 none, Cond.fieldLink RX4 49 "AerialSurvey$Strip" "row" "I", Cond.methodLink RX4 35 yX6_find, Cond.methodLink RX4 52 yX4_isIn, Cond.static yX4_isIn, Cond.code yX4_isIn cX4_isIn 2 (some .boolean), Cond.methodLink RX4 39 yX4_isEastbound, Cond.static yX4_isEastbound, Cond.code yX4_isEastbound cX4_isEastbound 1 (some .boolean), Cond.methodLink RX4 43 yX5_exitColumn, Cond.instanceMethod yX5_exitColumn, Cond.selects RX5 yX5_exitColumn yX5_exitColumn, Cond.code yX5_exitColumn cX5_exitColumn 2 (some .int), Cond.methodLink RX4 25 yX4_choose, Cond.instanceMethod yX4_choose, Cond.selects RX4 yX4_choose yX4_choose, Cond.code yX4_choose cX4_choose 11 none]
def wsL_law_r26 : List Cond := [Cond.fieldLink RX4 32 "AerialSurvey$Router" "chosenStep" "I", Cond.methodLink RX4 56 yX0_transferTime, Cond.instanceMethod yX0_transferTime, Cond.selects RX0 yX0_transferTime yX0_transferTime, Cond.code yX0_transferTime cX0_transferTime 6 (some .int), Cond.fieldLink RX0 33 "AerialSurvey$Strip" "row" "I", Cond.methodLink RX0 36 Lib.Math.abs.name, Cond.methodLink RX0 42 yX5_entryColumn, Cond.instanceMethod yX5_entryColumn, Cond.selects RX5 yX5_entryColumn yX5_entryColumn, Cond.code yX5_entryColumn cX5_entryColumn 2 (some .int), Cond.methodLink RX4 62 yX0_flightTime, Cond.methodLink RL 122 yX9_routeTime, Cond.instanceMethod yX9_routeTime, Cond.selects RX9 yX9_routeTime yX9_routeTime, Cond.code yX9_routeTime cX9_routeTime 3 (some .int), Cond.methodLink RX9 164 yX9_findRests, Cond.instanceMethod yX9_findRests, Cond.selects RX9 yX9_findRests yX9_findRests, Cond.code yX9_findRests cX9_findRests 3 none, Cond.methodLink RX9 151 yX9_exitColumn, Cond.instanceMethod yX9_exitColumn, Cond.selects RX9 yX9_exitColumn yX9_exitColumn, Cond.code yX9_exitColumn cX9_exitColumn 2 (some .int)]
def wsL_law_r27 : List Cond := [Cond.methodLink RX9 154 yX9_leastFrom, Cond.instanceMethod yX9_leastFrom, Cond.selects RX9 yX9_leastFrom yX9_leastFrom, Cond.code yX9_leastFrom cX9_leastFrom 7 (some .int), Cond.methodLink RX9 160 yX9_totalBy, Cond.instanceMethod yX9_totalBy, Cond.selects RX9 yX9_totalBy yX9_totalBy, Cond.code yX9_totalBy cX9_totalBy 5 (some .int), Cond.methodLink RX9 157 yX9_timeBy, Cond.instanceMethod yX9_timeBy, Cond.selects RX9 yX9_timeBy yX9_timeBy, Cond.code yX9_timeBy cX9_timeBy 5 (some .int), Cond.methodLink RX9 148 yX9_entryColumn, Cond.instanceMethod yX9_entryColumn, Cond.selects RX9 yX9_entryColumn yX9_entryColumn, Cond.code yX9_entryColumn cX9_entryColumn 2 (some .int), Cond.methodLink RL 123 yX8_routeStep, Cond.instanceMethod yX8_routeStep, Cond.selects RX8 yX8_routeStep yX8_routeStep, Cond.code yX8_routeStep cX8_routeStep 4 (some .int), Cond.methodLink RX8 190 yX4_fastestStep, Cond.instanceMethod yX4_fastestStep, Cond.selects RX4 yX4_fastestStep yX4_fastestStep, Cond.code yX4_fastestStep cX4_fastestStep 10 (some .int)]
def wsL_law_r28 : List Cond := [Cond.methodLink RL 126 yX9_routeStep, Cond.instanceMethod yX9_routeStep, Cond.selects RX9 yX9_routeStep yX9_routeStep, Cond.code yX9_routeStep cX9_routeStep 7 (some .int), Cond.methodLink RX9 167 yX9_firstLeg, Cond.instanceMethod yX9_firstLeg, Cond.selects RX9 yX9_firstLeg yX9_firstLeg, Cond.code yX9_firstLeg cX9_firstLeg 6 (some .int)]
def wsL_law : List Cond := (wsL_law_r1 ++ (wsL_law_r2 ++ (wsL_law_r3 ++ (wsL_law_r4 ++ (wsL_law_r5 ++ (wsL_law_r6 ++ (wsL_law_r7 ++ (wsL_law_r8 ++ (wsL_law_r9 ++ (wsL_law_r10 ++ (wsL_law_r11 ++ (wsL_law_r12 ++ (wsL_law_r13 ++ (wsL_law_r14 ++ (wsL_law_r15 ++ (wsL_law_r16 ++ (wsL_law_r17 ++ (wsL_law_r18 ++ (wsL_law_r19 ++ (wsL_law_r20 ++ (wsL_law_r21 ++ (wsL_law_r22 ++ (wsL_law_r23 ++ (wsL_law_r24 ++ (wsL_law_r25 ++ (wsL_law_r26 ++ (wsL_law_r27 ++ wsL_law_r28))))))))))))))))))))))))))) ++ wsX80 ++ wsX90 ++ wsX70 ++ wsX10 ++ wsX00 ++ wsX60 ++ wsX20 ++ wsX30 ++ wsX40 ++ wsX50 ++ ([] : List Cond)
theorem in_r {big : List Cond} (ws : List Cond) (ps : List Nat) (hp : ws = ps.filterMap (fun i => big[i]?)) : ∀ w ∈ ws, w ∈ big := by
  intro w hw
  rw [hp] at hw
  obtain ⟨i, -, hi⟩ := List.mem_filterMap.mp hw
  exact List.mem_of_getElem? hi
set_option maxRecDepth 20000 in
theorem inb_wsL_law_r1 : ∀ w ∈ wsL_law_r1, w ∈ lw_tbl := in_r _ [39, 40, 28, 519, 520, 37, 41, 42, 43, 44, 45, 46, 47, 48, 29, 212, 70, 71, 30, 213, 93, 94, 31, 214] (by decide +kernel)
set_option maxRecDepth 20000 in
theorem inb_wsL_law_r2 : ∀ w ∈ wsL_law_r2, w ∈ lw_tbl := in_r _ [112, 113, 32, 215, 156, 157, 34, 216, 172, 173, 35, 217, 196, 197, 36, 218, 49, 50, 51, 52, 53, 57, 69, 61] (by decide +kernel)
set_option maxRecDepth 20000 in
theorem inb_wsL_law_r3 : ∀ w ∈ wsL_law_r3, w ∈ lw_tbl := in_r _ [72, 73, 74, 75, 76, 78, 80, 82, 95, 96, 97, 98, 99, 101, 103, 114, 115, 116, 117, 118, 150, 120, 33, 122] (by decide +kernel)
set_option maxRecDepth 20000 in
theorem inb_wsL_law_r4 : ∀ w ∈ wsL_law_r4, w ∈ lw_tbl := in_r _ [123, 124, 159, 160, 161, 174, 175, 176, 177, 178, 186, 179, 198, 199, 200, 201, 202, 521, 522, 523, 524, 527, 528, 529] (by decide +kernel)
set_option maxRecDepth 20000 in
theorem inb_wsL_law_r5 : ∀ w ∈ wsL_law_r5, w ∈ lw_tbl := in_r _ [531, 533, 534, 536, 537, 538, 539, 586, 540, 544, 525, 526, 234, 235, 236, 237, 238, 239, 240, 241, 242, 243, 244, 245] (by decide +kernel)
set_option maxRecDepth 20000 in
theorem inb_wsL_law_r6 : ∀ w ∈ wsL_law_r6, w ∈ lw_tbl := in_r _ [246, 247, 248, 147, 587, 588, 589, 590, 535, 591, 592, 593, 249, 250, 251, 252, 253, 254, 255, 256, 257, 258, 259, 260] (by decide +kernel)
set_option maxRecDepth 20000 in
theorem inb_wsL_law_r7 : ∀ w ∈ wsL_law_r7, w ∈ lw_tbl := in_r _ [261, 262, 263, 264, 594, 595, 596, 597, 598, 600, 3, 601, 265, 266, 267, 268, 269, 270, 271, 272, 273, 274, 38, 275] (by decide +kernel)
set_option maxRecDepth 20000 in
theorem inb_wsL_law_r8 : ∀ w ∈ wsL_law_r8, w ∈ lw_tbl := in_r _ [276, 277, 278, 283, 284, 285, 280, 281, 282, 286, 602, 603, 604, 605, 606, 607, 608, 287, 288, 289, 290, 609, 610, 611] (by decide +kernel)
set_option maxRecDepth 20000 in
theorem inb_wsL_law_r9 : ∀ w ∈ wsL_law_r9, w ∈ lw_tbl := in_r _ [612, 291, 292, 293, 294, 77, 613, 614, 615, 616, 295, 296, 297, 298, 79, 81, 617, 618, 619, 620, 299, 300, 301, 302] (by decide +kernel)
set_option maxRecDepth 20000 in
theorem inb_wsL_law_r10 : ∀ w ∈ wsL_law_r10, w ∈ lw_tbl := in_r _ [83, 621, 622, 623, 624, 530, 303, 304, 305, 306, 100, 102, 104, 625, 626, 627, 628, 532, 307, 308, 309, 310, 311, 312] (by decide +kernel)
set_option maxRecDepth 20000 in
theorem inb_wsL_law_r11 : ∀ w ∈ wsL_law_r11, w ∈ lw_tbl := in_r _ [313, 314, 315, 316, 317, 318, 125, 130, 133, 136, 629, 630, 631, 632, 633, 635, 4, 636, 319, 320, 321, 322, 149, 323] (by decide +kernel)
set_option maxRecDepth 20000 in
theorem inb_wsL_law_r12 : ∀ w ∈ wsL_law_r12, w ∈ lw_tbl := in_r _ [324, 325, 326, 327, 328, 329, 330, 128, 132, 135, 137, 331, 637, 638, 639, 640, 641, 643, 5, 644, 332, 333, 334, 335] (by decide +kernel)
set_option maxRecDepth 20000 in
theorem inb_wsL_law_r13 : ∀ w ∈ wsL_law_r13, w ∈ lw_tbl := in_r _ [645, 646, 647, 648, 336, 337, 338, 339, 340, 341, 342, 343, 649, 650, 651, 652, 653, 655, 6, 656, 345, 346, 347, 348] (by decide +kernel)
set_option maxRecDepth 20000 in
theorem inb_wsL_law_r14 : ∀ w ∈ wsL_law_r14, w ∈ lw_tbl := in_r _ [349, 350, 351, 352, 353, 354, 355, 356, 357, 657, 658, 659, 660, 661, 663, 7, 664, 665, 667, 8, 668, 358, 359, 360] (by decide +kernel)
set_option maxRecDepth 20000 in
theorem inb_wsL_law_r15 : ∀ w ∈ wsL_law_r15, w ∈ lw_tbl := in_r _ [361, 129, 362, 363, 364, 365, 367, 366, 368, 370, 0, 371, 372, 373, 374, 38, 375, 669, 670, 671, 672, 673, 675, 9] (by decide +kernel)
set_option maxRecDepth 20000 in
theorem inb_wsL_law_r16 : ∀ w ∈ wsL_law_r16, w ∈ lw_tbl := in_r _ [676, 677, 679, 10, 680, 681, 682, 683, 376, 377, 378, 379, 56, 60, 684, 685, 686, 687, 688, 690, 11, 691, 692, 694] (by decide +kernel)
set_option maxRecDepth 20000 in
theorem inb_wsL_law_r17 : ∀ w ∈ wsL_law_r17, w ∈ lw_tbl := in_r _ [12, 695, 380, 381, 382, 383, 384, 385, 386, 387, 388, 389, 390, 391, 696, 697, 698, 699, 700, 702, 13, 703, 392, 393] (by decide +kernel)
set_option maxRecDepth 20000 in
theorem inb_wsL_law_r18 : ∀ w ∈ wsL_law_r18, w ∈ lw_tbl := in_r _ [394, 395, 704, 705, 706, 707, 708, 709, 710, 396, 397, 398, 399, 711, 712, 713, 714, 400, 401, 402, 403, 404, 405, 406] (by decide +kernel)
set_option maxRecDepth 20000 in
theorem inb_wsL_law_r19 : ∀ w ∈ wsL_law_r19, w ∈ lw_tbl := in_r _ [407, 162, 163, 164, 408, 409, 410, 411, 412, 413, 414, 415, 416, 715, 716, 717, 718, 719, 720, 721, 418, 419, 420, 421] (by decide +kernel)
set_option maxRecDepth 20000 in
theorem inb_wsL_law_r20 : ∀ w ∈ wsL_law_r20, w ∈ lw_tbl := in_r _ [422, 423, 424, 425, 426, 427, 722, 723, 724, 725, 726, 728, 14, 729, 428, 429, 430, 431, 185, 432, 433, 434, 435, 54] (by decide +kernel)
set_option maxRecDepth 20000 in
theorem inb_wsL_law_r21 : ∀ w ∈ wsL_law_r21, w ∈ lw_tbl := in_r _ [58, 184, 180, 182, 436, 437, 438, 439, 55, 59, 441, 442, 443, 444, 445, 446, 447, 448, 449, 450, 451, 730, 731, 732] (by decide +kernel)
set_option maxRecDepth 20000 in
theorem inb_wsL_law_r22 : ∀ w ∈ wsL_law_r22, w ∈ lw_tbl := in_r _ [733, 541, 734, 736, 15, 737, 742, 542, 543, 738, 740, 16, 741, 743, 745, 17, 746, 747, 749, 18, 750, 452, 453, 454] (by decide +kernel)
set_option maxRecDepth 20000 in
theorem inb_wsL_law_r23 : ∀ w ∈ wsL_law_r23, w ∈ lw_tbl := in_r _ [455, 181, 751, 752, 753, 754, 456, 457, 458, 459, 183, 755, 756, 757, 758, 460, 461, 462, 463, 464, 759, 760, 761, 762] (by decide +kernel)
set_option maxRecDepth 20000 in
theorem inb_wsL_law_r24 : ∀ w ∈ wsL_law_r24, w ∈ lw_tbl := in_r _ [465, 466, 467, 468, 469, 470, 471, 472, 134, 131, 763, 764, 765, 766, 767, 769, 19, 770, 474, 475, 476, 477, 478, 479] (by decide +kernel)
set_option maxRecDepth 20000 in
theorem inb_wsL_law_r25 : ∀ w ∈ wsL_law_r25, w ∈ lw_tbl := in_r _ [480, 481, 148, 204, 482, 484, 1, 485, 127, 486, 487, 488, 489, 490, 491, 492, 493, 494, 495, 496, 497, 499, 2, 500] (by decide +kernel)
set_option maxRecDepth 20000 in
theorem inb_wsL_law_r26 : ∀ w ∈ wsL_law_r26, w ∈ lw_tbl := in_r _ [203, 501, 502, 503, 504, 126, 505, 506, 507, 508, 509, 510, 771, 772, 773, 774, 775, 777, 20, 778, 779, 781, 21, 782] (by decide +kernel)
set_option maxRecDepth 20000 in
theorem inb_wsL_law_r27 : ∀ w ∈ wsL_law_r27, w ∈ lw_tbl := in_r _ [783, 785, 22, 786, 787, 789, 23, 790, 791, 793, 24, 794, 795, 797, 25, 798, 511, 512, 513, 514, 515, 516, 517, 518] (by decide +kernel)
set_option maxRecDepth 20000 in
theorem inb_wsL_law_r28 : ∀ w ∈ wsL_law_r28, w ∈ lw_tbl := in_r _ [799, 800, 801, 802, 803, 805, 26, 806] (by decide +kernel)
set_option maxRecDepth 20000 in
theorem inb_wsX80 : ∀ w ∈ wsX80, w ∈ lw_tbl := in_r _ [219, 221, 223, 225, 227, 229, 231] (by decide +kernel)
set_option maxRecDepth 20000 in
theorem inb_wsX90 : ∀ w ∈ wsX90, w ∈ lw_tbl := in_r _ [545, 547, 549, 551, 553, 555, 557, 559, 561, 563, 565, 567, 569, 571, 573, 575, 577, 579, 581, 583] (by decide +kernel)
set_option maxRecDepth 20000 in
theorem inb_wsX70 : ∀ w ∈ wsX70, w ∈ lw_tbl := in_r _ [62, 64, 66] (by decide +kernel)
set_option maxRecDepth 20000 in
theorem inb_wsX10 : ∀ w ∈ wsX10, w ∈ lw_tbl := in_r _ [84, 86, 88, 90] (by decide +kernel)
set_option maxRecDepth 20000 in
theorem inb_wsX00 : ∀ w ∈ wsX00, w ∈ lw_tbl := in_r _ [105, 107, 109] (by decide +kernel)
set_option maxRecDepth 20000 in
theorem inb_wsX60 : ∀ w ∈ wsX60, w ∈ lw_tbl := in_r _ [151, 153] (by decide +kernel)
set_option maxRecDepth 20000 in
theorem inb_wsX20 : ∀ w ∈ wsX20, w ∈ lw_tbl := in_r _ [165, 167, 169] (by decide +kernel)
set_option maxRecDepth 20000 in
theorem inb_wsX30 : ∀ w ∈ wsX30, w ∈ lw_tbl := in_r _ [187, 189, 191, 193] (by decide +kernel)
set_option maxRecDepth 20000 in
theorem inb_wsX40 : ∀ w ∈ wsX40, w ∈ lw_tbl := in_r _ [205, 207, 209] (by decide +kernel)
set_option maxRecDepth 20000 in
theorem inb_wsX50 : ∀ w ∈ wsX50, w ∈ lw_tbl := in_r _ [138, 140, 142, 144] (by decide +kernel)
theorem wsL_law_in : ∀ w ∈ wsL_law, w ∈ lw_tbl := by
  unfold wsL_law
  exact (List.forall_mem_append.mpr ⟨(List.forall_mem_append.mpr ⟨(List.forall_mem_append.mpr ⟨(List.forall_mem_append.mpr ⟨(List.forall_mem_append.mpr ⟨(List.forall_mem_append.mpr ⟨(List.forall_mem_append.mpr ⟨(List.forall_mem_append.mpr ⟨(List.forall_mem_append.mpr ⟨(List.forall_mem_append.mpr ⟨(List.forall_mem_append.mpr ⟨(List.forall_mem_append.mpr ⟨inb_wsL_law_r1, (List.forall_mem_append.mpr ⟨inb_wsL_law_r2, (List.forall_mem_append.mpr ⟨inb_wsL_law_r3, (List.forall_mem_append.mpr ⟨inb_wsL_law_r4, (List.forall_mem_append.mpr ⟨inb_wsL_law_r5, (List.forall_mem_append.mpr ⟨inb_wsL_law_r6, (List.forall_mem_append.mpr ⟨inb_wsL_law_r7, (List.forall_mem_append.mpr ⟨inb_wsL_law_r8, (List.forall_mem_append.mpr ⟨inb_wsL_law_r9, (List.forall_mem_append.mpr ⟨inb_wsL_law_r10, (List.forall_mem_append.mpr ⟨inb_wsL_law_r11, (List.forall_mem_append.mpr ⟨inb_wsL_law_r12, (List.forall_mem_append.mpr ⟨inb_wsL_law_r13, (List.forall_mem_append.mpr ⟨inb_wsL_law_r14, (List.forall_mem_append.mpr ⟨inb_wsL_law_r15, (List.forall_mem_append.mpr ⟨inb_wsL_law_r16, (List.forall_mem_append.mpr ⟨inb_wsL_law_r17, (List.forall_mem_append.mpr ⟨inb_wsL_law_r18, (List.forall_mem_append.mpr ⟨inb_wsL_law_r19, (List.forall_mem_append.mpr ⟨inb_wsL_law_r20, (List.forall_mem_append.mpr ⟨inb_wsL_law_r21, (List.forall_mem_append.mpr ⟨inb_wsL_law_r22, (List.forall_mem_append.mpr ⟨inb_wsL_law_r23, (List.forall_mem_append.mpr ⟨inb_wsL_law_r24, (List.forall_mem_append.mpr ⟨inb_wsL_law_r25, (List.forall_mem_append.mpr ⟨inb_wsL_law_r26, (List.forall_mem_append.mpr ⟨inb_wsL_law_r27, inb_wsL_law_r28⟩)⟩)⟩)⟩)⟩)⟩)⟩)⟩)⟩)⟩)⟩)⟩)⟩)⟩)⟩)⟩)⟩)⟩)⟩)⟩)⟩)⟩)⟩)⟩)⟩)⟩)⟩), inb_wsX80⟩), inb_wsX90⟩), inb_wsX70⟩), inb_wsX10⟩), inb_wsX00⟩), inb_wsX60⟩), inb_wsX20⟩), inb_wsX30⟩), inb_wsX40⟩), inb_wsX50⟩), fun _ h => absurd h List.not_mem_nil⟩)
theorem inlX0 : ∀ w ∈ wsX00, w ∈ wsL_law := fun _ h => List.mem_append_left _ (List.mem_append_left _ (List.mem_append_left _ (List.mem_append_left _ (List.mem_append_left _ (List.mem_append_left _ (List.mem_append_right _ h))))))
theorem inX0 : ∀ w ∈ wsX00, w ∈ lw_tbl := fun w h => wsL_law_in w (inlX0 w h)
theorem inlX1 : ∀ w ∈ wsX10, w ∈ wsL_law := fun _ h => List.mem_append_left _ (List.mem_append_left _ (List.mem_append_left _ (List.mem_append_left _ (List.mem_append_left _ (List.mem_append_left _ (List.mem_append_left _ (List.mem_append_right _ h)))))))
theorem inX1 : ∀ w ∈ wsX10, w ∈ lw_tbl := fun w h => wsL_law_in w (inlX1 w h)
theorem inlX2 : ∀ w ∈ wsX20, w ∈ wsL_law := fun _ h => List.mem_append_left _ (List.mem_append_left _ (List.mem_append_left _ (List.mem_append_left _ (List.mem_append_right _ h))))
theorem inX2 : ∀ w ∈ wsX20, w ∈ lw_tbl := fun w h => wsL_law_in w (inlX2 w h)
theorem inlX3 : ∀ w ∈ wsX30, w ∈ wsL_law := fun _ h => List.mem_append_left _ (List.mem_append_left _ (List.mem_append_left _ (List.mem_append_right _ h)))
theorem inX3 : ∀ w ∈ wsX30, w ∈ lw_tbl := fun w h => wsL_law_in w (inlX3 w h)
theorem inlX4 : ∀ w ∈ wsX40, w ∈ wsL_law := fun _ h => List.mem_append_left _ (List.mem_append_left _ (List.mem_append_right _ h))
theorem inX4 : ∀ w ∈ wsX40, w ∈ lw_tbl := fun w h => wsL_law_in w (inlX4 w h)
theorem inlX5 : ∀ w ∈ wsX50, w ∈ wsL_law := fun _ h => List.mem_append_left _ (List.mem_append_right _ h)
theorem inX5 : ∀ w ∈ wsX50, w ∈ lw_tbl := fun w h => wsL_law_in w (inlX5 w h)
theorem inlX6 : ∀ w ∈ wsX60, w ∈ wsL_law := fun _ h => List.mem_append_left _ (List.mem_append_left _ (List.mem_append_left _ (List.mem_append_left _ (List.mem_append_left _ (List.mem_append_right _ h)))))
theorem inX6 : ∀ w ∈ wsX60, w ∈ lw_tbl := fun w h => wsL_law_in w (inlX6 w h)
theorem inlX7 : ∀ w ∈ wsX70, w ∈ wsL_law := fun _ h => List.mem_append_left _ (List.mem_append_left _ (List.mem_append_left _ (List.mem_append_left _ (List.mem_append_left _ (List.mem_append_left _ (List.mem_append_left _ (List.mem_append_left _ (List.mem_append_right _ h))))))))
theorem inX7 : ∀ w ∈ wsX70, w ∈ lw_tbl := fun w h => wsL_law_in w (inlX7 w h)
theorem inlX8 : ∀ w ∈ wsX80, w ∈ wsL_law := fun _ h => List.mem_append_left _ (List.mem_append_left _ (List.mem_append_left _ (List.mem_append_left _ (List.mem_append_left _ (List.mem_append_left _ (List.mem_append_left _ (List.mem_append_left _ (List.mem_append_left _ (List.mem_append_left _ (List.mem_append_right _ h))))))))))
theorem inX8 : ∀ w ∈ wsX80, w ∈ lw_tbl := fun w h => wsL_law_in w (inlX8 w h)
theorem inlX9 : ∀ w ∈ wsX90, w ∈ wsL_law := fun _ h => List.mem_append_left _ (List.mem_append_left _ (List.mem_append_left _ (List.mem_append_left _ (List.mem_append_left _ (List.mem_append_left _ (List.mem_append_left _ (List.mem_append_left _ (List.mem_append_left _ (List.mem_append_right _ h)))))))))
theorem inX9 : ∀ w ∈ wsX90, w ∈ lw_tbl := fun w h => wsL_law_in w (inlX9 w h)
theorem inJ9 : ∀ w ∈ wsJ90, w ∈ lw_tbl := by decide +kernel
abbrev vwCl : List vw_C := [(RX0, TX0, 3), (RX1, TX1, 4), (RX2, TX2, 3), (RX3, TX3, 4), (RX4, TX4, 3), (RX5, TX5, 4), (RX6, TX6, 2), (RX7, TX7, 3), (RX8, TX8, 7), (RX9, TX9, 20)]
end
section
theorem dX0_init_0 : decode cX0_init 0 = .ok (.aload_n 0, 1) := by decide +kernel
theorem dX0_init_1 : decode cX0_init 1 = .ok (.invokespecial 1, 3) := by decide +kernel
theorem dX0_init_4 : decode cX0_init 4 = .ok (.aload_n 0, 1) := by decide +kernel
theorem dX0_init_5 : decode cX0_init 5 = .ok (.bipush 100, 2) := by decide +kernel
theorem dX0_init_7 : decode cX0_init 7 = .ok (.putfield 7, 3) := by decide +kernel
theorem dX0_init_10 : decode cX0_init 10 = .ok (.aload_n 0, 1) := by decide +kernel
theorem dX0_init_11 : decode cX0_init 11 = .ok (.iconst 0, 1) := by decide +kernel
theorem dX0_init_12 : decode cX0_init 12 = .ok (.putfield 13, 3) := by decide +kernel
theorem dX0_init_15 : decode cX0_init 15 = .ok (.aload_n 0, 1) := by decide +kernel
theorem dX0_init_16 : decode cX0_init 16 = .ok (.bipush 60, 2) := by decide +kernel
theorem dX0_init_18 : decode cX0_init 18 = .ok (.putfield 16, 3) := by decide +kernel
theorem dX0_init_21 : decode cX0_init 21 = .ok (.return_, 1) := by decide +kernel
set_option maxRecDepth 20000 in
theorem ggX0_flightTime_X8_quotient : GoodIn wsX0_flightTime wsX8_quotient := goodIn_r _ [7] (by decide +kernel) (by decide +kernel)
set_option maxRecDepth 20000 in
theorem gX0_flightTime_X8_quotient_n27 : GoodIn wsX0_flightTime (wsX8_quotient) := ggX0_flightTime_X8_quotient
theorem dX0_flightTime_0 : decode cX0_flightTime 0 = .ok (.iload_n 2, 1) := by decide +kernel
theorem dX0_flightTime_1 : decode cX0_flightTime 1 = .ok (.ifCond .eq 15, 3) := by decide +kernel
theorem dX0_flightTime_4 : decode cX0_flightTime 4 = .ok (.aload_n 0, 1) := by decide +kernel
theorem dX0_flightTime_5 : decode cX0_flightTime 5 = .ok (.getfield 7, 3) := by decide +kernel
theorem dX0_flightTime_8 : decode cX0_flightTime 8 = .ok (.aload_n 0, 1) := by decide +kernel
theorem dX0_flightTime_9 : decode cX0_flightTime 9 = .ok (.getfield 13, 3) := by decide +kernel
theorem dX0_flightTime_12 : decode cX0_flightTime 12 = .ok (.iadd, 1) := by decide +kernel
theorem dX0_flightTime_13 : decode cX0_flightTime 13 = .ok (.goto 12, 3) := by decide +kernel
theorem dX0_flightTime_16 : decode cX0_flightTime 16 = .ok (.aload_n 0, 1) := by decide +kernel
theorem dX0_flightTime_17 : decode cX0_flightTime 17 = .ok (.getfield 7, 3) := by decide +kernel
theorem dX0_flightTime_20 : decode cX0_flightTime 20 = .ok (.aload_n 0, 1) := by decide +kernel
theorem dX0_flightTime_21 : decode cX0_flightTime 21 = .ok (.getfield 13, 3) := by decide +kernel
theorem dX0_flightTime_24 : decode cX0_flightTime 24 = .ok (.isub, 1) := by decide +kernel
theorem dX0_flightTime_25 : decode cX0_flightTime 25 = .ok (.istore_n 3, 1) := by decide +kernel
theorem dX0_flightTime_26 : decode cX0_flightTime 26 = .ok (.aload_n 1, 1) := by decide +kernel
theorem dX0_flightTime_27 : decode cX0_flightTime 27 = .ok (.getfield 19, 3) := by decide +kernel
theorem dX0_flightTime_30 : decode cX0_flightTime 30 = .ok (.aload_n 1, 1) := by decide +kernel
theorem dX0_flightTime_31 : decode cX0_flightTime 31 = .ok (.getfield 24, 3) := by decide +kernel
theorem dX0_flightTime_34 : decode cX0_flightTime 34 = .ok (.isub, 1) := by decide +kernel
theorem dX0_flightTime_35 : decode cX0_flightTime 35 = .ok (.sipush 1000, 3) := by decide +kernel
theorem dX0_flightTime_38 : decode cX0_flightTime 38 = .ok (.imul, 1) := by decide +kernel
theorem dX0_flightTime_39 : decode cX0_flightTime 39 = .ok (.iload_n 3, 1) := by decide +kernel
theorem dX0_flightTime_40 : decode cX0_flightTime 40 = .ok (.invokestatic 27, 3) := by decide +kernel
theorem dX0_flightTime_43 : decode cX0_flightTime 43 = .ok (.ireturn, 1) := by decide +kernel
set_option maxRecDepth 20000 in
theorem ggX0_transferTime_X5_entryColumn : GoodIn wsX0_transferTime wsX5_entryColumn := goodIn_r _ [12, 13, 14, 18, 19, 20, 21] (by decide +kernel) (by decide +kernel)
set_option maxRecDepth 20000 in
theorem gX0_transferTime_X5_entryColumn : GoodIn wsX0_transferTime (wsV RX0 42 RX5 yX5_entryColumn wsX5_entryColumn) := goodIn_app (goodIn_of _ (by decide +kernel)) ggX0_transferTime_X5_entryColumn
set_option maxRecDepth 20000 in
theorem ggX0_transferTime_X8_quotient : GoodIn wsX0_transferTime wsX8_quotient := goodIn_r _ [17] (by decide +kernel) (by decide +kernel)
set_option maxRecDepth 20000 in
theorem gX0_transferTime_X8_quotient_n27 : GoodIn wsX0_transferTime (wsX8_quotient) := ggX0_transferTime_X8_quotient
theorem dX0_transferTime_0 : decode cX0_transferTime 0 = .ok (.aload_n 3, 1) := by decide +kernel
theorem dX0_transferTime_1 : decode cX0_transferTime 1 = .ok (.getfield 33, 3) := by decide +kernel
theorem dX0_transferTime_4 : decode cX0_transferTime 4 = .ok (.iload_n 1, 1) := by decide +kernel
theorem dX0_transferTime_5 : decode cX0_transferTime 5 = .ok (.isub, 1) := by decide +kernel
theorem dX0_transferTime_6 : decode cX0_transferTime 6 = .ok (.invokestatic 36, 3) := by decide +kernel
theorem dX0_transferTime_9 : decode cX0_transferTime 9 = .ok (.aload_n 3, 1) := by decide +kernel
theorem dX0_transferTime_10 : decode cX0_transferTime 10 = .ok (.iload 4, 2) := by decide +kernel
theorem dX0_transferTime_12 : decode cX0_transferTime 12 = .ok (.invokevirtual 42, 3) := by decide +kernel
theorem dX0_transferTime_15 : decode cX0_transferTime 15 = .ok (.iload_n 2, 1) := by decide +kernel
theorem dX0_transferTime_16 : decode cX0_transferTime 16 = .ok (.isub, 1) := by decide +kernel
theorem dX0_transferTime_17 : decode cX0_transferTime 17 = .ok (.invokestatic 36, 3) := by decide +kernel
theorem dX0_transferTime_20 : decode cX0_transferTime 20 = .ok (.iadd, 1) := by decide +kernel
theorem dX0_transferTime_21 : decode cX0_transferTime 21 = .ok (.istore 5, 2) := by decide +kernel
theorem dX0_transferTime_23 : decode cX0_transferTime 23 = .ok (.iload 5, 2) := by decide +kernel
theorem dX0_transferTime_25 : decode cX0_transferTime 25 = .ok (.sipush 1000, 3) := by decide +kernel
theorem dX0_transferTime_28 : decode cX0_transferTime 28 = .ok (.imul, 1) := by decide +kernel
theorem dX0_transferTime_29 : decode cX0_transferTime 29 = .ok (.aload_n 0, 1) := by decide +kernel
theorem dX0_transferTime_30 : decode cX0_transferTime 30 = .ok (.getfield 7, 3) := by decide +kernel
theorem dX0_transferTime_33 : decode cX0_transferTime 33 = .ok (.invokestatic 27, 3) := by decide +kernel
theorem dX0_transferTime_36 : decode cX0_transferTime 36 = .ok (.aload_n 0, 1) := by decide +kernel
theorem dX0_transferTime_37 : decode cX0_transferTime 37 = .ok (.getfield 16, 3) := by decide +kernel
theorem dX0_transferTime_40 : decode cX0_transferTime 40 = .ok (.iadd, 1) := by decide +kernel
theorem dX0_transferTime_41 : decode cX0_transferTime 41 = .ok (.ireturn, 1) := by decide +kernel
theorem dX1_init_0 : decode cX1_init 0 = .ok (.aload_n 0, 1) := by decide +kernel
theorem dX1_init_1 : decode cX1_init 1 = .ok (.invokespecial 1, 3) := by decide +kernel
theorem dX1_init_4 : decode cX1_init 4 = .ok (.aload_n 0, 1) := by decide +kernel
theorem dX1_init_5 : decode cX1_init 5 = .ok (.sipush 1000, 3) := by decide +kernel
theorem dX1_init_8 : decode cX1_init 8 = .ok (.putfield 7, 3) := by decide +kernel
theorem dX1_init_11 : decode cX1_init 11 = .ok (.aload_n 0, 1) := by decide +kernel
theorem dX1_init_12 : decode cX1_init 12 = .ok (.iconst 3, 1) := by decide +kernel
theorem dX1_init_13 : decode cX1_init 13 = .ok (.putfield 13, 3) := by decide +kernel
theorem dX1_init_16 : decode cX1_init 16 = .ok (.aload_n 0, 1) := by decide +kernel
theorem dX1_init_17 : decode cX1_init 17 = .ok (.iconst 2, 1) := by decide +kernel
theorem dX1_init_18 : decode cX1_init 18 = .ok (.putfield 16, 3) := by decide +kernel
theorem dX1_init_21 : decode cX1_init 21 = .ok (.aload_n 0, 1) := by decide +kernel
theorem dX1_init_22 : decode cX1_init 22 = .ok (.iconst 0, 1) := by decide +kernel
theorem dX1_init_23 : decode cX1_init 23 = .ok (.putfield 19, 3) := by decide +kernel
theorem dX1_init_26 : decode cX1_init 26 = .ok (.return_, 1) := by decide +kernel
set_option maxRecDepth 20000 in
theorem ggX1_sees_X7_heightAt : GoodIn wsX1_sees wsX7_heightAt := goodIn_r _ [13, 14, 31, 32, 33] (by decide +kernel) (by decide +kernel)
set_option maxRecDepth 20000 in
theorem gX1_sees_X7_heightAt : GoodIn wsX1_sees (wsV RX1 22 RX7 yX7_heightAt wsX7_heightAt) := goodIn_app (goodIn_of _ (by decide +kernel)) ggX1_sees_X7_heightAt
set_option maxRecDepth 20000 in
theorem ggX1_sees_X1_isLineFree : GoodIn wsX1_sees wsX1_isLineFree := goodIn_r _ [19, 3, 4, 5, 6, 20, 21, 22, 1, 9, 10, 11, 12, 13, 14, 23, 24, 25, 26, 27, 28, 29, 30, 31, 32, 33] (by decide +kernel) (by decide +kernel)
set_option maxRecDepth 20000 in
theorem gX1_sees_X1_isLineFree : GoodIn wsX1_sees (wsV RX1 34 RX1 yX1_isLineFree wsX1_isLineFree) := goodIn_app (goodIn_of _ (by decide +kernel)) ggX1_sees_X1_isLineFree
theorem dX1_sees_0 : decode cX1_sees 0 = .ok (.aload_n 0, 1) := by decide +kernel
theorem dX1_sees_1 : decode cX1_sees 1 = .ok (.getfield 7, 3) := by decide +kernel
theorem dX1_sees_4 : decode cX1_sees 4 = .ok (.aload_n 1, 1) := by decide +kernel
theorem dX1_sees_5 : decode cX1_sees 5 = .ok (.iload 4, 2) := by decide +kernel
theorem dX1_sees_7 : decode cX1_sees 7 = .ok (.iload 5, 2) := by decide +kernel
theorem dX1_sees_9 : decode cX1_sees 9 = .ok (.invokevirtual 22, 3) := by decide +kernel
theorem dX1_sees_12 : decode cX1_sees 12 = .ok (.isub, 1) := by decide +kernel
theorem dX1_sees_13 : decode cX1_sees 13 = .ok (.istore 6, 2) := by decide +kernel
theorem dX1_sees_15 : decode cX1_sees 15 = .ok (.iload 6, 2) := by decide +kernel
theorem dX1_sees_17 : decode cX1_sees 17 = .ok (.ifCond .gt 5, 3) := by decide +kernel
theorem dX1_sees_20 : decode cX1_sees 20 = .ok (.iconst 0, 1) := by decide +kernel
theorem dX1_sees_21 : decode cX1_sees 21 = .ok (.ireturn, 1) := by decide +kernel
theorem dX1_sees_22 : decode cX1_sees 22 = .ok (.iload 4, 2) := by decide +kernel
theorem dX1_sees_24 : decode cX1_sees 24 = .ok (.iload_n 2, 1) := by decide +kernel
theorem dX1_sees_25 : decode cX1_sees 25 = .ok (.isub, 1) := by decide +kernel
theorem dX1_sees_26 : decode cX1_sees 26 = .ok (.istore 7, 2) := by decide +kernel
theorem dX1_sees_28 : decode cX1_sees 28 = .ok (.iload 5, 2) := by decide +kernel
theorem dX1_sees_30 : decode cX1_sees 30 = .ok (.iload_n 3, 1) := by decide +kernel
theorem dX1_sees_31 : decode cX1_sees 31 = .ok (.isub, 1) := by decide +kernel
theorem dX1_sees_32 : decode cX1_sees 32 = .ok (.istore 8, 2) := by decide +kernel
theorem dX1_sees_34 : decode cX1_sees 34 = .ok (.bipush 100, 2) := by decide +kernel
theorem dX1_sees_36 : decode cX1_sees 36 = .ok (.iload 8, 2) := by decide +kernel
theorem dX1_sees_38 : decode cX1_sees 38 = .ok (.imul, 1) := by decide +kernel
theorem dX1_sees_39 : decode cX1_sees 39 = .ok (.aload_n 0, 1) := by decide +kernel
theorem dX1_sees_40 : decode cX1_sees 40 = .ok (.getfield 19, 3) := by decide +kernel
theorem dX1_sees_43 : decode cX1_sees 43 = .ok (.iload 7, 2) := by decide +kernel
theorem dX1_sees_45 : decode cX1_sees 45 = .ok (.imul, 1) := by decide +kernel
theorem dX1_sees_46 : decode cX1_sees 46 = .ok (.iadd, 1) := by decide +kernel
theorem dX1_sees_47 : decode cX1_sees 47 = .ok (.invokestatic 28, 3) := by decide +kernel
theorem dX1_sees_50 : decode cX1_sees 50 = .ok (.iload 6, 2) := by decide +kernel
theorem dX1_sees_52 : decode cX1_sees 52 = .ok (.aload_n 0, 1) := by decide +kernel
theorem dX1_sees_53 : decode cX1_sees 53 = .ok (.getfield 13, 3) := by decide +kernel
theorem dX1_sees_56 : decode cX1_sees 56 = .ok (.imul, 1) := by decide +kernel
theorem dX1_sees_57 : decode cX1_sees 57 = .ok (.bipush 10, 2) := by decide +kernel
theorem dX1_sees_59 : decode cX1_sees 59 = .ok (.idiv, 1) := by decide +kernel
theorem dX1_sees_60 : decode cX1_sees 60 = .ok (.if_icmp .gt 50, 3) := by decide +kernel
theorem dX1_sees_63 : decode cX1_sees 63 = .ok (.bipush 100, 2) := by decide +kernel
theorem dX1_sees_65 : decode cX1_sees 65 = .ok (.iload 7, 2) := by decide +kernel
theorem dX1_sees_67 : decode cX1_sees 67 = .ok (.imul, 1) := by decide +kernel
theorem dX1_sees_68 : decode cX1_sees 68 = .ok (.aload_n 0, 1) := by decide +kernel
theorem dX1_sees_69 : decode cX1_sees 69 = .ok (.getfield 19, 3) := by decide +kernel
theorem dX1_sees_72 : decode cX1_sees 72 = .ok (.iload 8, 2) := by decide +kernel
theorem dX1_sees_74 : decode cX1_sees 74 = .ok (.imul, 1) := by decide +kernel
theorem dX1_sees_75 : decode cX1_sees 75 = .ok (.isub, 1) := by decide +kernel
theorem dX1_sees_76 : decode cX1_sees 76 = .ok (.invokestatic 28, 3) := by decide +kernel
theorem dX1_sees_79 : decode cX1_sees 79 = .ok (.iload 6, 2) := by decide +kernel
theorem dX1_sees_81 : decode cX1_sees 81 = .ok (.aload_n 0, 1) := by decide +kernel
theorem dX1_sees_82 : decode cX1_sees 82 = .ok (.getfield 16, 3) := by decide +kernel
theorem dX1_sees_85 : decode cX1_sees 85 = .ok (.imul, 1) := by decide +kernel
theorem dX1_sees_86 : decode cX1_sees 86 = .ok (.bipush 10, 2) := by decide +kernel
theorem dX1_sees_88 : decode cX1_sees 88 = .ok (.idiv, 1) := by decide +kernel
theorem dX1_sees_89 : decode cX1_sees 89 = .ok (.if_icmp .gt 21, 3) := by decide +kernel
theorem dX1_sees_92 : decode cX1_sees 92 = .ok (.aload_n 0, 1) := by decide +kernel
theorem dX1_sees_93 : decode cX1_sees 93 = .ok (.aload_n 1, 1) := by decide +kernel
theorem dX1_sees_94 : decode cX1_sees 94 = .ok (.iload_n 2, 1) := by decide +kernel
theorem dX1_sees_95 : decode cX1_sees 95 = .ok (.iload_n 3, 1) := by decide +kernel
theorem dX1_sees_96 : decode cX1_sees 96 = .ok (.iload 4, 2) := by decide +kernel
theorem dX1_sees_98 : decode cX1_sees 98 = .ok (.iload 5, 2) := by decide +kernel
theorem dX1_sees_100 : decode cX1_sees 100 = .ok (.invokevirtual 34, 3) := by decide +kernel
theorem dX1_sees_103 : decode cX1_sees 103 = .ok (.ifCond .eq 7, 3) := by decide +kernel
theorem dX1_sees_106 : decode cX1_sees 106 = .ok (.iconst 1, 1) := by decide +kernel
theorem dX1_sees_107 : decode cX1_sees 107 = .ok (.goto 4, 3) := by decide +kernel
theorem dX1_sees_110 : decode cX1_sees 110 = .ok (.iconst 0, 1) := by decide +kernel
theorem dX1_sees_111 : decode cX1_sees 111 = .ok (.ireturn, 1) := by decide +kernel
set_option maxRecDepth 20000 in
theorem ggX1_isLineFree_X7_heightAt : GoodIn wsX1_isLineFree wsX7_heightAt := goodIn_r _ [13, 14, 23, 24, 25] (by decide +kernel) (by decide +kernel)
set_option maxRecDepth 20000 in
theorem gX1_isLineFree_X7_heightAt : GoodIn wsX1_isLineFree (wsV RX1 22 RX7 yX7_heightAt wsX7_heightAt) := goodIn_app (goodIn_of _ (by decide +kernel)) ggX1_isLineFree_X7_heightAt
set_option maxRecDepth 20000 in
theorem ggX1_isLineFree_J9_floorDiv_7cf53 : GoodIn wsX1_isLineFree wsJ9_floorDiv_7cf53 := goodIn_r _ [18] (by decide +kernel) (by decide +kernel)
set_option maxRecDepth 20000 in
theorem gX1_isLineFree_J9_floorDiv_7cf53 : GoodIn wsX1_isLineFree (va_wsS RX1 41 yJ9_floorDiv_7cf53 wsJ9_floorDiv_7cf53) := goodIn_app (goodIn_of _ (by decide +kernel)) ggX1_isLineFree_J9_floorDiv_7cf53
theorem dX1_isLineFree_0 : decode cX1_isLineFree 0 = .ok (.iload 4, 2) := by decide +kernel
theorem dX1_isLineFree_2 : decode cX1_isLineFree 2 = .ok (.iload_n 2, 1) := by decide +kernel
theorem dX1_isLineFree_3 : decode cX1_isLineFree 3 = .ok (.isub, 1) := by decide +kernel
theorem dX1_isLineFree_4 : decode cX1_isLineFree 4 = .ok (.istore 6, 2) := by decide +kernel
theorem dX1_isLineFree_6 : decode cX1_isLineFree 6 = .ok (.iload 5, 2) := by decide +kernel
theorem dX1_isLineFree_8 : decode cX1_isLineFree 8 = .ok (.iload_n 3, 1) := by decide +kernel
theorem dX1_isLineFree_9 : decode cX1_isLineFree 9 = .ok (.isub, 1) := by decide +kernel
theorem dX1_isLineFree_10 : decode cX1_isLineFree 10 = .ok (.istore 7, 2) := by decide +kernel
theorem dX1_isLineFree_12 : decode cX1_isLineFree 12 = .ok (.iload 6, 2) := by decide +kernel
theorem dX1_isLineFree_14 : decode cX1_isLineFree 14 = .ok (.invokestatic 28, 3) := by decide +kernel
theorem dX1_isLineFree_17 : decode cX1_isLineFree 17 = .ok (.iload 7, 2) := by decide +kernel
theorem dX1_isLineFree_19 : decode cX1_isLineFree 19 = .ok (.invokestatic 28, 3) := by decide +kernel
theorem dX1_isLineFree_22 : decode cX1_isLineFree 22 = .ok (.invokestatic 38, 3) := by decide +kernel
theorem dX1_isLineFree_25 : decode cX1_isLineFree 25 = .ok (.istore 8, 2) := by decide +kernel
theorem dX1_isLineFree_27 : decode cX1_isLineFree 27 = .ok (.iload 8, 2) := by decide +kernel
theorem dX1_isLineFree_29 : decode cX1_isLineFree 29 = .ok (.iconst 2, 1) := by decide +kernel
theorem dX1_isLineFree_30 : decode cX1_isLineFree 30 = .ok (.if_icmp .ge 5, 3) := by decide +kernel
theorem dX1_isLineFree_33 : decode cX1_isLineFree 33 = .ok (.iconst 1, 1) := by decide +kernel
theorem dX1_isLineFree_34 : decode cX1_isLineFree 34 = .ok (.ireturn, 1) := by decide +kernel
theorem dX1_isLineFree_35 : decode cX1_isLineFree 35 = .ok (.aload_n 1, 1) := by decide +kernel
theorem dX1_isLineFree_36 : decode cX1_isLineFree 36 = .ok (.iload 4, 2) := by decide +kernel
theorem dX1_isLineFree_38 : decode cX1_isLineFree 38 = .ok (.iload 5, 2) := by decide +kernel
theorem dX1_isLineFree_40 : decode cX1_isLineFree 40 = .ok (.invokevirtual 22, 3) := by decide +kernel
theorem dX1_isLineFree_43 : decode cX1_isLineFree 43 = .ok (.aload_n 0, 1) := by decide +kernel
theorem dX1_isLineFree_44 : decode cX1_isLineFree 44 = .ok (.getfield 7, 3) := by decide +kernel
theorem dX1_isLineFree_47 : decode cX1_isLineFree 47 = .ok (.isub, 1) := by decide +kernel
theorem dX1_isLineFree_48 : decode cX1_isLineFree 48 = .ok (.istore 9, 2) := by decide +kernel
theorem dX1_isLineFree_50 : decode cX1_isLineFree 50 = .ok (.iconst 1, 1) := by decide +kernel
theorem dX1_isLineFree_51 : decode cX1_isLineFree 51 = .ok (.istore 10, 2) := by decide +kernel
theorem dX1_isLineFree_53 : decode cX1_isLineFree 53 = .ok (.iload 10, 2) := by decide +kernel
theorem dX1_isLineFree_55 : decode cX1_isLineFree 55 = .ok (.iload 8, 2) := by decide +kernel
theorem dX1_isLineFree_57 : decode cX1_isLineFree 57 = .ok (.if_icmp .ge 84, 3) := by decide +kernel
theorem dX1_isLineFree_60 : decode cX1_isLineFree 60 = .ok (.iload_n 2, 1) := by decide +kernel
theorem dX1_isLineFree_61 : decode cX1_isLineFree 61 = .ok (.iconst 2, 1) := by decide +kernel
theorem dX1_isLineFree_62 : decode cX1_isLineFree 62 = .ok (.iload 10, 2) := by decide +kernel
theorem dX1_isLineFree_64 : decode cX1_isLineFree 64 = .ok (.imul, 1) := by decide +kernel
theorem dX1_isLineFree_65 : decode cX1_isLineFree 65 = .ok (.iload 6, 2) := by decide +kernel
theorem dX1_isLineFree_67 : decode cX1_isLineFree 67 = .ok (.imul, 1) := by decide +kernel
theorem dX1_isLineFree_68 : decode cX1_isLineFree 68 = .ok (.iload 8, 2) := by decide +kernel
theorem dX1_isLineFree_70 : decode cX1_isLineFree 70 = .ok (.iadd, 1) := by decide +kernel
theorem dX1_isLineFree_71 : decode cX1_isLineFree 71 = .ok (.iconst 2, 1) := by decide +kernel
theorem dX1_isLineFree_72 : decode cX1_isLineFree 72 = .ok (.iload 8, 2) := by decide +kernel
theorem dX1_isLineFree_74 : decode cX1_isLineFree 74 = .ok (.imul, 1) := by decide +kernel
theorem dX1_isLineFree_75 : decode cX1_isLineFree 75 = .ok (.invokestatic 41, 3) := by decide +kernel
theorem dX1_isLineFree_78 : decode cX1_isLineFree 78 = .ok (.iadd, 1) := by decide +kernel
theorem dX1_isLineFree_79 : decode cX1_isLineFree 79 = .ok (.istore 11, 2) := by decide +kernel
theorem dX1_isLineFree_81 : decode cX1_isLineFree 81 = .ok (.iload_n 3, 1) := by decide +kernel
theorem dX1_isLineFree_82 : decode cX1_isLineFree 82 = .ok (.iconst 2, 1) := by decide +kernel
theorem dX1_isLineFree_83 : decode cX1_isLineFree 83 = .ok (.iload 10, 2) := by decide +kernel
theorem dX1_isLineFree_85 : decode cX1_isLineFree 85 = .ok (.imul, 1) := by decide +kernel
theorem dX1_isLineFree_86 : decode cX1_isLineFree 86 = .ok (.iload 7, 2) := by decide +kernel
theorem dX1_isLineFree_88 : decode cX1_isLineFree 88 = .ok (.imul, 1) := by decide +kernel
theorem dX1_isLineFree_89 : decode cX1_isLineFree 89 = .ok (.iload 8, 2) := by decide +kernel
theorem dX1_isLineFree_91 : decode cX1_isLineFree 91 = .ok (.iadd, 1) := by decide +kernel
theorem dX1_isLineFree_92 : decode cX1_isLineFree 92 = .ok (.iconst 2, 1) := by decide +kernel
theorem dX1_isLineFree_93 : decode cX1_isLineFree 93 = .ok (.iload 8, 2) := by decide +kernel
theorem dX1_isLineFree_95 : decode cX1_isLineFree 95 = .ok (.imul, 1) := by decide +kernel
theorem dX1_isLineFree_96 : decode cX1_isLineFree 96 = .ok (.invokestatic 41, 3) := by decide +kernel
theorem dX1_isLineFree_99 : decode cX1_isLineFree 99 = .ok (.iadd, 1) := by decide +kernel
theorem dX1_isLineFree_100 : decode cX1_isLineFree 100 = .ok (.istore 12, 2) := by decide +kernel
theorem dX1_isLineFree_102 : decode cX1_isLineFree 102 = .ok (.aload_n 1, 1) := by decide +kernel
theorem dX1_isLineFree_103 : decode cX1_isLineFree 103 = .ok (.iload 11, 2) := by decide +kernel
theorem dX1_isLineFree_105 : decode cX1_isLineFree 105 = .ok (.iload 12, 2) := by decide +kernel
theorem dX1_isLineFree_107 : decode cX1_isLineFree 107 = .ok (.invokevirtual 22, 3) := by decide +kernel
theorem dX1_isLineFree_110 : decode cX1_isLineFree 110 = .ok (.istore 13, 2) := by decide +kernel
theorem dX1_isLineFree_112 : decode cX1_isLineFree 112 = .ok (.iload 13, 2) := by decide +kernel
theorem dX1_isLineFree_114 : decode cX1_isLineFree 114 = .ok (.iload 8, 2) := by decide +kernel
theorem dX1_isLineFree_116 : decode cX1_isLineFree 116 = .ok (.imul, 1) := by decide +kernel
theorem dX1_isLineFree_117 : decode cX1_isLineFree 117 = .ok (.aload_n 0, 1) := by decide +kernel
theorem dX1_isLineFree_118 : decode cX1_isLineFree 118 = .ok (.getfield 7, 3) := by decide +kernel
theorem dX1_isLineFree_121 : decode cX1_isLineFree 121 = .ok (.iload 8, 2) := by decide +kernel
theorem dX1_isLineFree_123 : decode cX1_isLineFree 123 = .ok (.imul, 1) := by decide +kernel
theorem dX1_isLineFree_124 : decode cX1_isLineFree 124 = .ok (.iload 9, 2) := by decide +kernel
theorem dX1_isLineFree_126 : decode cX1_isLineFree 126 = .ok (.iload 10, 2) := by decide +kernel
theorem dX1_isLineFree_128 : decode cX1_isLineFree 128 = .ok (.imul, 1) := by decide +kernel
theorem dX1_isLineFree_129 : decode cX1_isLineFree 129 = .ok (.iadd, 1) := by decide +kernel
theorem dX1_isLineFree_130 : decode cX1_isLineFree 130 = .ok (.if_icmp .le 5, 3) := by decide +kernel
theorem dX1_isLineFree_133 : decode cX1_isLineFree 133 = .ok (.iconst 0, 1) := by decide +kernel
theorem dX1_isLineFree_134 : decode cX1_isLineFree 134 = .ok (.ireturn, 1) := by decide +kernel
theorem dX1_isLineFree_135 : decode cX1_isLineFree 135 = .ok (.iinc 10 1, 3) := by decide +kernel
theorem dX1_isLineFree_138 : decode cX1_isLineFree 138 = .ok (.goto (-85), 3) := by decide +kernel
theorem dX1_isLineFree_141 : decode cX1_isLineFree 141 = .ok (.iconst 1, 1) := by decide +kernel
theorem dX1_isLineFree_142 : decode cX1_isLineFree 142 = .ok (.ireturn, 1) := by decide +kernel
theorem dX2_init_0 : decode cX2_init 0 = .ok (.aload_n 0, 1) := by decide +kernel
theorem dX2_init_1 : decode cX2_init 1 = .ok (.invokespecial 1, 3) := by decide +kernel
theorem dX2_init_4 : decode cX2_init 4 = .ok (.return_, 1) := by decide +kernel
theorem dX2_clear_0 : decode cX2_clear 0 = .ok (.aload_n 0, 1) := by decide +kernel
theorem dX2_clear_1 : decode cX2_clear 1 = .ok (.iconst 0, 1) := by decide +kernel
theorem dX2_clear_2 : decode cX2_clear 2 = .ok (.putfield 7, 3) := by decide +kernel
theorem dX2_clear_5 : decode cX2_clear 5 = .ok (.aload_n 0, 1) := by decide +kernel
theorem dX2_clear_6 : decode cX2_clear 6 = .ok (.iconst 0, 1) := by decide +kernel
theorem dX2_clear_7 : decode cX2_clear 7 = .ok (.putfield 13, 3) := by decide +kernel
theorem dX2_clear_10 : decode cX2_clear 10 = .ok (.aload_n 0, 1) := by decide +kernel
theorem dX2_clear_11 : decode cX2_clear 11 = .ok (.iconst 0, 1) := by decide +kernel
theorem dX2_clear_12 : decode cX2_clear 12 = .ok (.putfield 16, 3) := by decide +kernel
theorem dX2_clear_15 : decode cX2_clear 15 = .ok (.return_, 1) := by decide +kernel
theorem dX2_countCell_0 : decode cX2_countCell 0 = .ok (.aload_n 0, 1) := by decide +kernel
theorem dX2_countCell_1 : decode cX2_countCell 1 = .ok (.dup, 1) := by decide +kernel
theorem dX2_countCell_2 : decode cX2_countCell 2 = .ok (.getfield 7, 3) := by decide +kernel
theorem dX2_countCell_5 : decode cX2_countCell 5 = .ok (.iload_n 1, 1) := by decide +kernel
theorem dX2_countCell_6 : decode cX2_countCell 6 = .ok (.ifCond .eq 7, 3) := by decide +kernel
theorem dX2_countCell_9 : decode cX2_countCell 9 = .ok (.iconst 1, 1) := by decide +kernel
theorem dX2_countCell_10 : decode cX2_countCell 10 = .ok (.goto 4, 3) := by decide +kernel
theorem dX2_countCell_13 : decode cX2_countCell 13 = .ok (.iconst 0, 1) := by decide +kernel
theorem dX2_countCell_14 : decode cX2_countCell 14 = .ok (.iadd, 1) := by decide +kernel
theorem dX2_countCell_15 : decode cX2_countCell 15 = .ok (.putfield 7, 3) := by decide +kernel
theorem dX2_countCell_18 : decode cX2_countCell 18 = .ok (.aload_n 0, 1) := by decide +kernel
theorem dX2_countCell_19 : decode cX2_countCell 19 = .ok (.dup, 1) := by decide +kernel
theorem dX2_countCell_20 : decode cX2_countCell 20 = .ok (.getfield 13, 3) := by decide +kernel
theorem dX2_countCell_23 : decode cX2_countCell 23 = .ok (.iload_n 2, 1) := by decide +kernel
theorem dX2_countCell_24 : decode cX2_countCell 24 = .ok (.ifCond .eq 7, 3) := by decide +kernel
theorem dX2_countCell_27 : decode cX2_countCell 27 = .ok (.iconst 1, 1) := by decide +kernel
theorem dX2_countCell_28 : decode cX2_countCell 28 = .ok (.goto 4, 3) := by decide +kernel
theorem dX2_countCell_31 : decode cX2_countCell 31 = .ok (.iconst 0, 1) := by decide +kernel
theorem dX2_countCell_32 : decode cX2_countCell 32 = .ok (.iadd, 1) := by decide +kernel
theorem dX2_countCell_33 : decode cX2_countCell 33 = .ok (.putfield 13, 3) := by decide +kernel
theorem dX2_countCell_36 : decode cX2_countCell 36 = .ok (.aload_n 0, 1) := by decide +kernel
theorem dX2_countCell_37 : decode cX2_countCell 37 = .ok (.dup, 1) := by decide +kernel
theorem dX2_countCell_38 : decode cX2_countCell 38 = .ok (.getfield 16, 3) := by decide +kernel
theorem dX2_countCell_41 : decode cX2_countCell 41 = .ok (.iload_n 1, 1) := by decide +kernel
theorem dX2_countCell_42 : decode cX2_countCell 42 = .ok (.ifCond .eq 11, 3) := by decide +kernel
theorem dX2_countCell_45 : decode cX2_countCell 45 = .ok (.iload_n 2, 1) := by decide +kernel
theorem dX2_countCell_46 : decode cX2_countCell 46 = .ok (.ifCond .eq 7, 3) := by decide +kernel
theorem dX2_countCell_49 : decode cX2_countCell 49 = .ok (.iconst 1, 1) := by decide +kernel
theorem dX2_countCell_50 : decode cX2_countCell 50 = .ok (.goto 4, 3) := by decide +kernel
theorem dX2_countCell_53 : decode cX2_countCell 53 = .ok (.iconst 0, 1) := by decide +kernel
theorem dX2_countCell_54 : decode cX2_countCell 54 = .ok (.iadd, 1) := by decide +kernel
theorem dX2_countCell_55 : decode cX2_countCell 55 = .ok (.putfield 16, 3) := by decide +kernel
theorem dX2_countCell_58 : decode cX2_countCell 58 = .ok (.return_, 1) := by decide +kernel
set_option maxRecDepth 20000 in
theorem ggX2_percent_X8_quotient : GoodIn wsX2_percent wsX8_quotient := goodIn_r _ [10] (by decide +kernel) (by decide +kernel)
set_option maxRecDepth 20000 in
theorem gX2_percent_X8_quotient_n25 : GoodIn wsX2_percent (wsX8_quotient) := ggX2_percent_X8_quotient
theorem dX2_percent_0 : decode cX2_percent 0 = .ok (.aload_n 0, 1) := by decide +kernel
theorem dX2_percent_1 : decode cX2_percent 1 = .ok (.getfield 16, 3) := by decide +kernel
theorem dX2_percent_4 : decode cX2_percent 4 = .ok (.bipush 100, 2) := by decide +kernel
theorem dX2_percent_6 : decode cX2_percent 6 = .ok (.imul, 1) := by decide +kernel
theorem dX2_percent_7 : decode cX2_percent 7 = .ok (.aload_n 0, 1) := by decide +kernel
theorem dX2_percent_8 : decode cX2_percent 8 = .ok (.getfield 7, 3) := by decide +kernel
theorem dX2_percent_11 : decode cX2_percent 11 = .ok (.aload_n 0, 1) := by decide +kernel
theorem dX2_percent_12 : decode cX2_percent 12 = .ok (.getfield 13, 3) := by decide +kernel
theorem dX2_percent_15 : decode cX2_percent 15 = .ok (.invokestatic 19, 3) := by decide +kernel
theorem dX2_percent_18 : decode cX2_percent 18 = .ok (.invokestatic 25, 3) := by decide +kernel
theorem dX2_percent_21 : decode cX2_percent 21 = .ok (.ireturn, 1) := by decide +kernel
set_option maxRecDepth 20000 in
theorem ggX3_init_X6_init : GoodIn wsX3_init wsX6_init := goodIn_r _ [10, 11, 2, 3, 12, 13, 14, 15, 16, 17, 18, 19, 20, 25, 26, 27, 28] (by decide +kernel) (by decide +kernel)
set_option maxRecDepth 20000 in
theorem gX3_init_X6_init : GoodIn wsX3_init (wsX6_init) := ggX3_init_X6_init
theorem dX3_init_0 : decode cX3_init 0 = .ok (.aload_n 0, 1) := by decide +kernel
theorem dX3_init_1 : decode cX3_init 1 = .ok (.invokespecial 1, 3) := by decide +kernel
theorem dX3_init_4 : decode cX3_init 4 = .ok (.aload_n 0, 1) := by decide +kernel
theorem dX3_init_5 : decode cX3_init 5 = .ok (.new 7, 3) := by decide +kernel
theorem dX3_init_8 : decode cX3_init 8 = .ok (.dup, 1) := by decide +kernel
theorem dX3_init_9 : decode cX3_init 9 = .ok (.invokespecial 9, 3) := by decide +kernel
theorem dX3_init_12 : decode cX3_init 12 = .ok (.putfield 10, 3) := by decide +kernel
theorem dX3_init_15 : decode cX3_init 15 = .ok (.return_, 1) := by decide +kernel
set_option maxRecDepth 20000 in
theorem ggX3_search_X6_layOut : GoodIn wsX3_search wsX6_layOut := goodIn_r _ [11, 12, 13, 14, 15, 16, 17, 18, 19, 20, 10, 21, 22, 23, 24, 25, 26, 27, 28, 29, 30, 31, 32, 33, 34, 35, 87, 88, 89, 94, 95, 96, 97, 98, 99] (by decide +kernel) (by decide +kernel)
set_option maxRecDepth 20000 in
theorem gX3_search_X6_layOut : GoodIn wsX3_search (wsV RX3 25 RX6 yX6_layOut wsX6_layOut) := goodIn_app (goodIn_of _ (by decide +kernel)) ggX3_search_X6_layOut
set_option maxRecDepth 20000 in
theorem ggX3_search_X6_photoTotal : GoodIn wsX3_search wsX6_photoTotal := goodIn_r _ [39, 22, 13, 40, 41, 42, 30, 43, 34, 33, 35, 15, 16, 17, 94, 95, 96, 97, 98, 99] (by decide +kernel) (by decide +kernel)
set_option maxRecDepth 20000 in
theorem gX3_search_X6_photoTotal : GoodIn wsX3_search (wsV RX3 29 RX6 yX6_photoTotal wsX6_photoTotal) := goodIn_app (goodIn_of _ (by decide +kernel)) ggX3_search_X6_photoTotal
set_option maxRecDepth 20000 in
theorem ggX3_search_X6_leavesGap : GoodIn wsX3_search wsX6_leavesGap := goodIn_r _ [47, 12, 14, 48, 49, 50, 10, 51, 22, 13, 52, 40, 41, 42, 30, 43, 34, 33, 35, 15, 16, 17, 53, 54, 55, 56, 57, 58, 59, 60, 61, 62, 63, 64, 65, 66, 67, 68, 69, 70, 71, 72, 73, 74, 75, 76, 77, 78, 79, 80, 81, 82, 83, 84, 85, 86, 87, 88, 89, 94, 95, 96, 97, 98, 99, 100, 101, 102, 103] (by decide +kernel) (by decide +kernel)
set_option maxRecDepth 20000 in
theorem gX3_search_X6_leavesGap : GoodIn wsX3_search (wsV RX3 36 RX6 yX6_leavesGap wsX6_leavesGap) := goodIn_app (goodIn_of _ (by decide +kernel)) ggX3_search_X6_leavesGap
theorem dX3_search_0 : decode cX3_search 0 = .ok (.iconst 0, 1) := by decide +kernel
theorem dX3_search_1 : decode cX3_search 1 = .ok (.istore 4, 2) := by decide +kernel
theorem dX3_search_3 : decode cX3_search 3 = .ok (.aload_n 1, 1) := by decide +kernel
theorem dX3_search_4 : decode cX3_search 4 = .ok (.getfield 16, 3) := by decide +kernel
theorem dX3_search_7 : decode cX3_search 7 = .ok (.istore 5, 2) := by decide +kernel
theorem dX3_search_9 : decode cX3_search 9 = .ok (.iload 5, 2) := by decide +kernel
theorem dX3_search_11 : decode cX3_search 11 = .ok (.iconst 1, 1) := by decide +kernel
theorem dX3_search_12 : decode cX3_search 12 = .ok (.if_icmp .lt 100, 3) := by decide +kernel
theorem dX3_search_15 : decode cX3_search 15 = .ok (.aload_n 1, 1) := by decide +kernel
theorem dX3_search_16 : decode cX3_search 16 = .ok (.getfield 22, 3) := by decide +kernel
theorem dX3_search_19 : decode cX3_search 19 = .ok (.istore 6, 2) := by decide +kernel
theorem dX3_search_21 : decode cX3_search 21 = .ok (.iload 6, 2) := by decide +kernel
theorem dX3_search_23 : decode cX3_search 23 = .ok (.iconst 1, 1) := by decide +kernel
theorem dX3_search_24 : decode cX3_search 24 = .ok (.if_icmp .lt 82, 3) := by decide +kernel
theorem dX3_search_27 : decode cX3_search 27 = .ok (.aload_n 0, 1) := by decide +kernel
theorem dX3_search_28 : decode cX3_search 28 = .ok (.getfield 10, 3) := by decide +kernel
theorem dX3_search_31 : decode cX3_search 31 = .ok (.aload_n 1, 1) := by decide +kernel
theorem dX3_search_32 : decode cX3_search 32 = .ok (.iload 5, 2) := by decide +kernel
theorem dX3_search_34 : decode cX3_search 34 = .ok (.iload 6, 2) := by decide +kernel
theorem dX3_search_36 : decode cX3_search 36 = .ok (.invokevirtual 25, 3) := by decide +kernel
theorem dX3_search_39 : decode cX3_search 39 = .ok (.ifCond .eq 61, 3) := by decide +kernel
theorem dX3_search_42 : decode cX3_search 42 = .ok (.iload 4, 2) := by decide +kernel
theorem dX3_search_44 : decode cX3_search 44 = .ok (.ifCond .eq 17, 3) := by decide +kernel
theorem dX3_search_47 : decode cX3_search 47 = .ok (.aload_n 0, 1) := by decide +kernel
theorem dX3_search_48 : decode cX3_search 48 = .ok (.getfield 10, 3) := by decide +kernel
theorem dX3_search_51 : decode cX3_search 51 = .ok (.invokevirtual 29, 3) := by decide +kernel
theorem dX3_search_54 : decode cX3_search 54 = .ok (.aload_n 0, 1) := by decide +kernel
theorem dX3_search_55 : decode cX3_search 55 = .ok (.getfield 33, 3) := by decide +kernel
theorem dX3_search_58 : decode cX3_search 58 = .ok (.if_icmp .ge 42, 3) := by decide +kernel
theorem dX3_search_61 : decode cX3_search 61 = .ok (.aload_n 0, 1) := by decide +kernel
theorem dX3_search_62 : decode cX3_search 62 = .ok (.getfield 10, 3) := by decide +kernel
theorem dX3_search_65 : decode cX3_search 65 = .ok (.aload_n 1, 1) := by decide +kernel
theorem dX3_search_66 : decode cX3_search 66 = .ok (.aload_n 2, 1) := by decide +kernel
theorem dX3_search_67 : decode cX3_search 67 = .ok (.iload_n 3, 1) := by decide +kernel
theorem dX3_search_68 : decode cX3_search 68 = .ok (.invokevirtual 36, 3) := by decide +kernel
theorem dX3_search_71 : decode cX3_search 71 = .ok (.ifCond .ne 29, 3) := by decide +kernel
theorem dX3_search_74 : decode cX3_search 74 = .ok (.iconst 1, 1) := by decide +kernel
theorem dX3_search_75 : decode cX3_search 75 = .ok (.istore 4, 2) := by decide +kernel
theorem dX3_search_77 : decode cX3_search 77 = .ok (.aload_n 0, 1) := by decide +kernel
theorem dX3_search_78 : decode cX3_search 78 = .ok (.iload 5, 2) := by decide +kernel
theorem dX3_search_80 : decode cX3_search 80 = .ok (.putfield 40, 3) := by decide +kernel
theorem dX3_search_83 : decode cX3_search 83 = .ok (.aload_n 0, 1) := by decide +kernel
theorem dX3_search_84 : decode cX3_search 84 = .ok (.iload 6, 2) := by decide +kernel
theorem dX3_search_86 : decode cX3_search 86 = .ok (.putfield 43, 3) := by decide +kernel
theorem dX3_search_89 : decode cX3_search 89 = .ok (.aload_n 0, 1) := by decide +kernel
theorem dX3_search_90 : decode cX3_search 90 = .ok (.aload_n 0, 1) := by decide +kernel
theorem dX3_search_91 : decode cX3_search 91 = .ok (.getfield 10, 3) := by decide +kernel
theorem dX3_search_94 : decode cX3_search 94 = .ok (.invokevirtual 29, 3) := by decide +kernel
theorem dX3_search_97 : decode cX3_search 97 = .ok (.putfield 33, 3) := by decide +kernel
theorem dX3_search_100 : decode cX3_search 100 = .ok (.iinc 6 (-1), 3) := by decide +kernel
theorem dX3_search_103 : decode cX3_search 103 = .ok (.goto (-82), 3) := by decide +kernel
theorem dX3_search_106 : decode cX3_search 106 = .ok (.iinc 5 (-1), 3) := by decide +kernel
theorem dX3_search_109 : decode cX3_search 109 = .ok (.goto (-100), 3) := by decide +kernel
theorem dX3_search_112 : decode cX3_search 112 = .ok (.iload 4, 2) := by decide +kernel
theorem dX3_search_114 : decode cX3_search 114 = .ok (.ireturn, 1) := by decide +kernel
theorem dX4_init_0 : decode cX4_init 0 = .ok (.aload_n 0, 1) := by decide +kernel
theorem dX4_init_1 : decode cX4_init 1 = .ok (.invokespecial 3, 3) := by decide +kernel
theorem dX4_init_4 : decode cX4_init 4 = .ok (.aload_n 0, 1) := by decide +kernel
theorem dX4_init_5 : decode cX4_init 5 = .ok (.sipush 4096, 3) := by decide +kernel
theorem dX4_init_8 : decode cX4_init 8 = .ok (.newarray .int, 2) := by decide +kernel
theorem dX4_init_10 : decode cX4_init 10 = .ok (.putfield 11, 3) := by decide +kernel
theorem dX4_init_13 : decode cX4_init 13 = .ok (.return_, 1) := by decide +kernel
set_option maxRecDepth 20000 in
theorem ggX4_fastestTime_X4_fillTimes : GoodIn wsX4_fastestTime wsX4_fillTimes := goodIn_r _ [7, 1, 8, 9, 2, 10, 11, 12, 13, 14, 15, 16, 17, 18, 6, 19, 20, 21, 22, 23, 24, 25, 26, 27, 28, 29, 30, 31, 32, 33, 34, 35, 36, 37, 38, 39, 40, 41, 42, 43, 44, 45, 46, 47, 48, 49, 50, 51, 52, 53, 54, 55, 56, 57, 58, 59, 60, 61, 62, 66, 67, 68, 69, 63, 64, 65, 70, 71, 72] (by decide +kernel) (by decide +kernel)
set_option maxRecDepth 20000 in
theorem gX4_fastestTime_X4_fillTimes : GoodIn wsX4_fastestTime (wsV RX4 15 RX4 yX4_fillTimes wsX4_fillTimes) := goodIn_app (goodIn_of _ (by decide +kernel)) ggX4_fastestTime_X4_fillTimes
set_option maxRecDepth 20000 in
theorem ggX4_fastestTime_X4_choose : GoodIn wsX4_fastestTime wsX4_choose := goodIn_r _ [33, 34, 2, 1, 9, 10, 11, 12, 13, 14, 15, 16, 17, 18, 6, 19, 20, 21, 22, 35, 36, 37, 38, 39, 40, 41, 42, 43, 44, 45, 46, 47, 48, 49, 26, 50, 29, 28, 51, 52, 53, 54, 55, 56, 57, 58, 59, 60, 63, 64, 65, 61, 62, 66, 67, 68, 69, 70, 71, 72] (by decide +kernel) (by decide +kernel)
set_option maxRecDepth 20000 in
theorem gX4_fastestTime_X4_choose : GoodIn wsX4_fastestTime (wsV RX4 25 RX4 yX4_choose wsX4_choose) := goodIn_app (goodIn_of _ (by decide +kernel)) ggX4_fastestTime_X4_choose
theorem dX4_fastestTime_0 : decode cX4_fastestTime 0 = .ok (.aload_n 0, 1) := by decide +kernel
theorem dX4_fastestTime_1 : decode cX4_fastestTime 1 = .ok (.aload_n 1, 1) := by decide +kernel
theorem dX4_fastestTime_2 : decode cX4_fastestTime 2 = .ok (.aload_n 2, 1) := by decide +kernel
theorem dX4_fastestTime_3 : decode cX4_fastestTime 3 = .ok (.invokevirtual 15, 3) := by decide +kernel
theorem dX4_fastestTime_6 : decode cX4_fastestTime 6 = .ok (.aload_n 0, 1) := by decide +kernel
theorem dX4_fastestTime_7 : decode cX4_fastestTime 7 = .ok (.aload_n 1, 1) := by decide +kernel
theorem dX4_fastestTime_8 : decode cX4_fastestTime 8 = .ok (.aload_n 2, 1) := by decide +kernel
theorem dX4_fastestTime_9 : decode cX4_fastestTime 9 = .ok (.iconst 1, 1) := by decide +kernel
theorem dX4_fastestTime_10 : decode cX4_fastestTime 10 = .ok (.aload_n 1, 1) := by decide +kernel
theorem dX4_fastestTime_11 : decode cX4_fastestTime 11 = .ok (.getfield 19, 3) := by decide +kernel
theorem dX4_fastestTime_14 : decode cX4_fastestTime 14 = .ok (.ishl, 1) := by decide +kernel
theorem dX4_fastestTime_15 : decode cX4_fastestTime 15 = .ok (.iconst 1, 1) := by decide +kernel
theorem dX4_fastestTime_16 : decode cX4_fastestTime 16 = .ok (.isub, 1) := by decide +kernel
theorem dX4_fastestTime_17 : decode cX4_fastestTime 17 = .ok (.iload_n 3, 1) := by decide +kernel
theorem dX4_fastestTime_18 : decode cX4_fastestTime 18 = .ok (.iload 4, 2) := by decide +kernel
theorem dX4_fastestTime_20 : decode cX4_fastestTime 20 = .ok (.invokevirtual 25, 3) := by decide +kernel
theorem dX4_fastestTime_23 : decode cX4_fastestTime 23 = .ok (.aload_n 0, 1) := by decide +kernel
theorem dX4_fastestTime_24 : decode cX4_fastestTime 24 = .ok (.getfield 29, 3) := by decide +kernel
theorem dX4_fastestTime_27 : decode cX4_fastestTime 27 = .ok (.ireturn, 1) := by decide +kernel
set_option maxRecDepth 20000 in
theorem ggX4_fastestStep_X4_fillTimes : GoodIn wsX4_fastestStep wsX4_fillTimes := goodIn_r _ [8, 1, 3, 9, 10, 11, 12, 13, 14, 15, 16, 17, 18, 19, 7, 20, 21, 22, 23, 24, 25, 26, 27, 28, 29, 30, 31, 32, 33, 34, 2, 35, 36, 37, 38, 39, 40, 41, 42, 43, 44, 45, 46, 47, 48, 49, 50, 51, 52, 53, 54, 55, 56, 57, 58, 59, 60, 61, 62, 66, 67, 68, 69, 63, 64, 65, 70, 71, 72] (by decide +kernel) (by decide +kernel)
set_option maxRecDepth 20000 in
theorem gX4_fastestStep_X4_fillTimes : GoodIn wsX4_fastestStep (wsV RX4 15 RX4 yX4_fillTimes wsX4_fillTimes) := goodIn_app (goodIn_of _ (by decide +kernel)) ggX4_fastestStep_X4_fillTimes
set_option maxRecDepth 20000 in
theorem ggX4_fastestStep_X4_choose : GoodIn wsX4_fastestStep wsX4_choose := goodIn_r _ [34, 2, 10, 1, 9, 11, 12, 13, 14, 15, 16, 17, 18, 19, 7, 20, 21, 22, 23, 35, 36, 37, 38, 39, 40, 41, 42, 43, 44, 45, 46, 47, 48, 49, 27, 50, 30, 29, 51, 52, 53, 54, 55, 56, 57, 58, 59, 60, 63, 64, 65, 61, 62, 66, 67, 68, 69, 70, 71, 72] (by decide +kernel) (by decide +kernel)
set_option maxRecDepth 20000 in
theorem gX4_fastestStep_X4_choose : GoodIn wsX4_fastestStep (wsV RX4 25 RX4 yX4_choose wsX4_choose) := goodIn_app (goodIn_of _ (by decide +kernel)) ggX4_fastestStep_X4_choose
set_option maxRecDepth 20000 in
theorem ggX4_fastestStep_X6_find : GoodIn wsX4_fastestStep wsX6_find := goodIn_r _ [15, 16, 17, 61, 62] (by decide +kernel) (by decide +kernel)
set_option maxRecDepth 20000 in
theorem gX4_fastestStep_X6_find : GoodIn wsX4_fastestStep (wsV RX4 35 RX6 yX6_find wsX6_find) := goodIn_app (goodIn_of _ (by decide +kernel)) ggX4_fastestStep_X6_find
set_option maxRecDepth 20000 in
theorem ggX4_fastestStep_X4_isEastbound : GoodIn wsX4_fastestStep wsX4_isEastbound := goodIn_r _ [23] (by decide +kernel) (by decide +kernel)
set_option maxRecDepth 20000 in
theorem gX4_fastestStep_X4_isEastbound : GoodIn wsX4_fastestStep (va_wsS RX4 39 yX4_isEastbound wsX4_isEastbound) := goodIn_app (goodIn_of _ (by decide +kernel)) ggX4_fastestStep_X4_isEastbound
set_option maxRecDepth 20000 in
theorem ggX4_fastestStep_X5_exitColumn : GoodIn wsX4_fastestStep wsX5_exitColumn := goodIn_r _ [28, 29, 30, 66, 67, 68, 69] (by decide +kernel) (by decide +kernel)
set_option maxRecDepth 20000 in
theorem gX4_fastestStep_X5_exitColumn : GoodIn wsX4_fastestStep (wsV RX4 43 RX5 yX5_exitColumn wsX5_exitColumn) := goodIn_app (goodIn_of _ (by decide +kernel)) ggX4_fastestStep_X5_exitColumn
theorem dX4_fastestStep_0 : decode cX4_fastestStep 0 = .ok (.aload_n 0, 1) := by decide +kernel
theorem dX4_fastestStep_1 : decode cX4_fastestStep 1 = .ok (.aload_n 1, 1) := by decide +kernel
theorem dX4_fastestStep_2 : decode cX4_fastestStep 2 = .ok (.aload_n 2, 1) := by decide +kernel
theorem dX4_fastestStep_3 : decode cX4_fastestStep 3 = .ok (.invokevirtual 15, 3) := by decide +kernel
theorem dX4_fastestStep_6 : decode cX4_fastestStep 6 = .ok (.iconst 1, 1) := by decide +kernel
theorem dX4_fastestStep_7 : decode cX4_fastestStep 7 = .ok (.aload_n 1, 1) := by decide +kernel
theorem dX4_fastestStep_8 : decode cX4_fastestStep 8 = .ok (.getfield 19, 3) := by decide +kernel
theorem dX4_fastestStep_11 : decode cX4_fastestStep 11 = .ok (.ishl, 1) := by decide +kernel
theorem dX4_fastestStep_12 : decode cX4_fastestStep 12 = .ok (.iconst 1, 1) := by decide +kernel
theorem dX4_fastestStep_13 : decode cX4_fastestStep 13 = .ok (.isub, 1) := by decide +kernel
theorem dX4_fastestStep_14 : decode cX4_fastestStep 14 = .ok (.istore 6, 2) := by decide +kernel
theorem dX4_fastestStep_16 : decode cX4_fastestStep 16 = .ok (.aload_n 0, 1) := by decide +kernel
theorem dX4_fastestStep_17 : decode cX4_fastestStep 17 = .ok (.aload_n 1, 1) := by decide +kernel
theorem dX4_fastestStep_18 : decode cX4_fastestStep 18 = .ok (.aload_n 2, 1) := by decide +kernel
theorem dX4_fastestStep_19 : decode cX4_fastestStep 19 = .ok (.iload 6, 2) := by decide +kernel
theorem dX4_fastestStep_21 : decode cX4_fastestStep 21 = .ok (.iload_n 3, 1) := by decide +kernel
theorem dX4_fastestStep_22 : decode cX4_fastestStep 22 = .ok (.iload 4, 2) := by decide +kernel
theorem dX4_fastestStep_24 : decode cX4_fastestStep 24 = .ok (.invokevirtual 25, 3) := by decide +kernel
theorem dX4_fastestStep_27 : decode cX4_fastestStep 27 = .ok (.iconst 0, 1) := by decide +kernel
theorem dX4_fastestStep_28 : decode cX4_fastestStep 28 = .ok (.istore 7, 2) := by decide +kernel
theorem dX4_fastestStep_30 : decode cX4_fastestStep 30 = .ok (.iload 7, 2) := by decide +kernel
theorem dX4_fastestStep_32 : decode cX4_fastestStep 32 = .ok (.iload 5, 2) := by decide +kernel
theorem dX4_fastestStep_34 : decode cX4_fastestStep 34 = .ok (.if_icmp .ge 80, 3) := by decide +kernel
theorem dX4_fastestStep_37 : decode cX4_fastestStep 37 = .ok (.iload 7, 2) := by decide +kernel
theorem dX4_fastestStep_39 : decode cX4_fastestStep 39 = .ok (.bipush 8, 2) := by decide +kernel
theorem dX4_fastestStep_41 : decode cX4_fastestStep 41 = .ok (.if_icmp .ge 73, 3) := by decide +kernel
theorem dX4_fastestStep_44 : decode cX4_fastestStep 44 = .ok (.aload_n 1, 1) := by decide +kernel
theorem dX4_fastestStep_45 : decode cX4_fastestStep 45 = .ok (.aload_n 0, 1) := by decide +kernel
theorem dX4_fastestStep_46 : decode cX4_fastestStep 46 = .ok (.getfield 32, 3) := by decide +kernel
theorem dX4_fastestStep_49 : decode cX4_fastestStep 49 = .ok (.iconst 2, 1) := by decide +kernel
theorem dX4_fastestStep_50 : decode cX4_fastestStep 50 = .ok (.idiv, 1) := by decide +kernel
theorem dX4_fastestStep_51 : decode cX4_fastestStep 51 = .ok (.invokevirtual 35, 3) := by decide +kernel
theorem dX4_fastestStep_54 : decode cX4_fastestStep 54 = .ok (.astore 8, 2) := by decide +kernel
theorem dX4_fastestStep_56 : decode cX4_fastestStep 56 = .ok (.aload 8, 2) := by decide +kernel
theorem dX4_fastestStep_58 : decode cX4_fastestStep 58 = .ok (.ifnonnull 6, 3) := by decide +kernel
theorem dX4_fastestStep_61 : decode cX4_fastestStep 61 = .ok (.bipush (-6), 2) := by decide +kernel
theorem dX4_fastestStep_63 : decode cX4_fastestStep 63 = .ok (.ireturn, 1) := by decide +kernel
theorem dX4_fastestStep_64 : decode cX4_fastestStep 64 = .ok (.iload 6, 2) := by decide +kernel
theorem dX4_fastestStep_66 : decode cX4_fastestStep 66 = .ok (.iconst 1, 1) := by decide +kernel
theorem dX4_fastestStep_67 : decode cX4_fastestStep 67 = .ok (.aload_n 0, 1) := by decide +kernel
theorem dX4_fastestStep_68 : decode cX4_fastestStep 68 = .ok (.getfield 32, 3) := by decide +kernel
theorem dX4_fastestStep_71 : decode cX4_fastestStep 71 = .ok (.iconst 2, 1) := by decide +kernel
theorem dX4_fastestStep_72 : decode cX4_fastestStep 72 = .ok (.idiv, 1) := by decide +kernel
theorem dX4_fastestStep_73 : decode cX4_fastestStep 73 = .ok (.ishl, 1) := by decide +kernel
theorem dX4_fastestStep_74 : decode cX4_fastestStep 74 = .ok (.iconst (-1), 1) := by decide +kernel
theorem dX4_fastestStep_75 : decode cX4_fastestStep 75 = .ok (.ixor, 1) := by decide +kernel
theorem dX4_fastestStep_76 : decode cX4_fastestStep 76 = .ok (.iand, 1) := by decide +kernel
theorem dX4_fastestStep_77 : decode cX4_fastestStep 77 = .ok (.istore 6, 2) := by decide +kernel
theorem dX4_fastestStep_79 : decode cX4_fastestStep 79 = .ok (.aload 8, 2) := by decide +kernel
theorem dX4_fastestStep_81 : decode cX4_fastestStep 81 = .ok (.aload_n 0, 1) := by decide +kernel
theorem dX4_fastestStep_82 : decode cX4_fastestStep 82 = .ok (.getfield 32, 3) := by decide +kernel
theorem dX4_fastestStep_85 : decode cX4_fastestStep 85 = .ok (.invokestatic 39, 3) := by decide +kernel
theorem dX4_fastestStep_88 : decode cX4_fastestStep 88 = .ok (.invokevirtual 43, 3) := by decide +kernel
theorem dX4_fastestStep_91 : decode cX4_fastestStep 91 = .ok (.istore 9, 2) := by decide +kernel
theorem dX4_fastestStep_93 : decode cX4_fastestStep 93 = .ok (.aload_n 0, 1) := by decide +kernel
theorem dX4_fastestStep_94 : decode cX4_fastestStep 94 = .ok (.aload_n 1, 1) := by decide +kernel
theorem dX4_fastestStep_95 : decode cX4_fastestStep 95 = .ok (.aload_n 2, 1) := by decide +kernel
theorem dX4_fastestStep_96 : decode cX4_fastestStep 96 = .ok (.iload 6, 2) := by decide +kernel
theorem dX4_fastestStep_98 : decode cX4_fastestStep 98 = .ok (.aload 8, 2) := by decide +kernel
theorem dX4_fastestStep_100 : decode cX4_fastestStep 100 = .ok (.getfield 49, 3) := by decide +kernel
theorem dX4_fastestStep_103 : decode cX4_fastestStep 103 = .ok (.iload 9, 2) := by decide +kernel
theorem dX4_fastestStep_105 : decode cX4_fastestStep 105 = .ok (.invokevirtual 25, 3) := by decide +kernel
theorem dX4_fastestStep_108 : decode cX4_fastestStep 108 = .ok (.iinc 7 1, 3) := by decide +kernel
theorem dX4_fastestStep_111 : decode cX4_fastestStep 111 = .ok (.goto (-81), 3) := by decide +kernel
theorem dX4_fastestStep_114 : decode cX4_fastestStep 114 = .ok (.aload_n 0, 1) := by decide +kernel
theorem dX4_fastestStep_115 : decode cX4_fastestStep 115 = .ok (.getfield 32, 3) := by decide +kernel
theorem dX4_fastestStep_118 : decode cX4_fastestStep 118 = .ok (.ireturn, 1) := by decide +kernel
set_option maxRecDepth 20000 in
theorem ggX4_fillTimes_X6_find : GoodIn wsX4_fillTimes wsX6_find := goodIn_r _ [9, 10, 11, 57, 58] (by decide +kernel) (by decide +kernel)
set_option maxRecDepth 20000 in
theorem gX4_fillTimes_X6_find : GoodIn wsX4_fillTimes (wsV RX4 35 RX6 yX6_find wsX6_find) := goodIn_app (goodIn_of _ (by decide +kernel)) ggX4_fillTimes_X6_find
set_option maxRecDepth 20000 in
theorem ggX4_fillTimes_X4_isIn : GoodIn wsX4_fillTimes wsX4_isIn := goodIn_r _ [15] (by decide +kernel) (by decide +kernel)
set_option maxRecDepth 20000 in
theorem gX4_fillTimes_X4_isIn : GoodIn wsX4_fillTimes (va_wsS RX4 52 yX4_isIn wsX4_isIn) := goodIn_app (goodIn_of _ (by decide +kernel)) ggX4_fillTimes_X4_isIn
set_option maxRecDepth 20000 in
theorem ggX4_fillTimes_X4_isEastbound : GoodIn wsX4_fillTimes wsX4_isEastbound := goodIn_r _ [18] (by decide +kernel) (by decide +kernel)
set_option maxRecDepth 20000 in
theorem gX4_fillTimes_X4_isEastbound : GoodIn wsX4_fillTimes (va_wsS RX4 39 yX4_isEastbound wsX4_isEastbound) := goodIn_app (goodIn_of _ (by decide +kernel)) ggX4_fillTimes_X4_isEastbound
set_option maxRecDepth 20000 in
theorem ggX4_fillTimes_X5_exitColumn : GoodIn wsX4_fillTimes wsX5_exitColumn := goodIn_r _ [23, 24, 25, 59, 60, 61, 62] (by decide +kernel) (by decide +kernel)
set_option maxRecDepth 20000 in
theorem gX4_fillTimes_X5_exitColumn : GoodIn wsX4_fillTimes (wsV RX4 43 RX5 yX5_exitColumn wsX5_exitColumn) := goodIn_app (goodIn_of _ (by decide +kernel)) ggX4_fillTimes_X5_exitColumn
set_option maxRecDepth 20000 in
theorem ggX4_fillTimes_X4_choose : GoodIn wsX4_fillTimes wsX4_choose := goodIn_r _ [29, 30, 4, 1, 3, 5, 6, 7, 8, 9, 10, 11, 12, 13, 14, 15, 16, 17, 18, 31, 32, 33, 34, 35, 36, 37, 38, 39, 40, 41, 42, 43, 44, 45, 22, 46, 25, 24, 47, 48, 49, 50, 51, 52, 53, 54, 55, 56, 63, 64, 65, 57, 58, 59, 60, 61, 62, 66, 67, 68] (by decide +kernel) (by decide +kernel)
set_option maxRecDepth 20000 in
theorem gX4_fillTimes_X4_choose : GoodIn wsX4_fillTimes (wsV RX4 25 RX4 yX4_choose wsX4_choose) := goodIn_app (goodIn_of _ (by decide +kernel)) ggX4_fillTimes_X4_choose
theorem dX4_fillTimes_0 : decode cX4_fillTimes 0 = .ok (.iconst 0, 1) := by decide +kernel
theorem dX4_fillTimes_1 : decode cX4_fillTimes 1 = .ok (.istore_n 3, 1) := by decide +kernel
theorem dX4_fillTimes_2 : decode cX4_fillTimes 2 = .ok (.iload_n 3, 1) := by decide +kernel
theorem dX4_fillTimes_3 : decode cX4_fillTimes 3 = .ok (.iconst 1, 1) := by decide +kernel
theorem dX4_fillTimes_4 : decode cX4_fillTimes 4 = .ok (.aload_n 1, 1) := by decide +kernel
theorem dX4_fillTimes_5 : decode cX4_fillTimes 5 = .ok (.getfield 19, 3) := by decide +kernel
theorem dX4_fillTimes_8 : decode cX4_fillTimes 8 = .ok (.ishl, 1) := by decide +kernel
theorem dX4_fillTimes_9 : decode cX4_fillTimes 9 = .ok (.if_icmp .ge 97, 3) := by decide +kernel
theorem dX4_fillTimes_12 : decode cX4_fillTimes 12 = .ok (.iconst 0, 1) := by decide +kernel
theorem dX4_fillTimes_13 : decode cX4_fillTimes 13 = .ok (.istore 4, 2) := by decide +kernel
theorem dX4_fillTimes_15 : decode cX4_fillTimes 15 = .ok (.iload 4, 2) := by decide +kernel
theorem dX4_fillTimes_17 : decode cX4_fillTimes 17 = .ok (.iconst 2, 1) := by decide +kernel
theorem dX4_fillTimes_18 : decode cX4_fillTimes 18 = .ok (.aload_n 1, 1) := by decide +kernel
theorem dX4_fillTimes_19 : decode cX4_fillTimes 19 = .ok (.getfield 19, 3) := by decide +kernel
theorem dX4_fillTimes_22 : decode cX4_fillTimes 22 = .ok (.imul, 1) := by decide +kernel
theorem dX4_fillTimes_23 : decode cX4_fillTimes 23 = .ok (.if_icmp .ge 77, 3) := by decide +kernel
theorem dX4_fillTimes_26 : decode cX4_fillTimes 26 = .ok (.aload_n 1, 1) := by decide +kernel
theorem dX4_fillTimes_27 : decode cX4_fillTimes 27 = .ok (.iload 4, 2) := by decide +kernel
theorem dX4_fillTimes_29 : decode cX4_fillTimes 29 = .ok (.iconst 2, 1) := by decide +kernel
theorem dX4_fillTimes_30 : decode cX4_fillTimes 30 = .ok (.idiv, 1) := by decide +kernel
theorem dX4_fillTimes_31 : decode cX4_fillTimes 31 = .ok (.invokevirtual 35, 3) := by decide +kernel
theorem dX4_fillTimes_34 : decode cX4_fillTimes 34 = .ok (.astore 5, 2) := by decide +kernel
theorem dX4_fillTimes_36 : decode cX4_fillTimes 36 = .ok (.aload 5, 2) := by decide +kernel
theorem dX4_fillTimes_38 : decode cX4_fillTimes 38 = .ok (.ifnull 56, 3) := by decide +kernel
theorem dX4_fillTimes_41 : decode cX4_fillTimes 41 = .ok (.iload_n 3, 1) := by decide +kernel
theorem dX4_fillTimes_42 : decode cX4_fillTimes 42 = .ok (.iload 4, 2) := by decide +kernel
theorem dX4_fillTimes_44 : decode cX4_fillTimes 44 = .ok (.iconst 2, 1) := by decide +kernel
theorem dX4_fillTimes_45 : decode cX4_fillTimes 45 = .ok (.idiv, 1) := by decide +kernel
theorem dX4_fillTimes_46 : decode cX4_fillTimes 46 = .ok (.invokestatic 52, 3) := by decide +kernel
theorem dX4_fillTimes_49 : decode cX4_fillTimes 49 = .ok (.ifCond .ne 45, 3) := by decide +kernel
theorem dX4_fillTimes_52 : decode cX4_fillTimes 52 = .ok (.aload 5, 2) := by decide +kernel
theorem dX4_fillTimes_54 : decode cX4_fillTimes 54 = .ok (.iload 4, 2) := by decide +kernel
theorem dX4_fillTimes_56 : decode cX4_fillTimes 56 = .ok (.invokestatic 39, 3) := by decide +kernel
theorem dX4_fillTimes_59 : decode cX4_fillTimes 59 = .ok (.invokevirtual 43, 3) := by decide +kernel
theorem dX4_fillTimes_62 : decode cX4_fillTimes 62 = .ok (.istore 6, 2) := by decide +kernel
theorem dX4_fillTimes_64 : decode cX4_fillTimes 64 = .ok (.aload_n 0, 1) := by decide +kernel
theorem dX4_fillTimes_65 : decode cX4_fillTimes 65 = .ok (.aload_n 1, 1) := by decide +kernel
theorem dX4_fillTimes_66 : decode cX4_fillTimes 66 = .ok (.aload_n 2, 1) := by decide +kernel
theorem dX4_fillTimes_67 : decode cX4_fillTimes 67 = .ok (.iload_n 3, 1) := by decide +kernel
theorem dX4_fillTimes_68 : decode cX4_fillTimes 68 = .ok (.aload 5, 2) := by decide +kernel
theorem dX4_fillTimes_70 : decode cX4_fillTimes 70 = .ok (.getfield 49, 3) := by decide +kernel
theorem dX4_fillTimes_73 : decode cX4_fillTimes 73 = .ok (.iload 6, 2) := by decide +kernel
theorem dX4_fillTimes_75 : decode cX4_fillTimes 75 = .ok (.invokevirtual 25, 3) := by decide +kernel
theorem dX4_fillTimes_78 : decode cX4_fillTimes 78 = .ok (.aload_n 0, 1) := by decide +kernel
theorem dX4_fillTimes_79 : decode cX4_fillTimes 79 = .ok (.getfield 11, 3) := by decide +kernel
theorem dX4_fillTimes_82 : decode cX4_fillTimes 82 = .ok (.iload_n 3, 1) := by decide +kernel
theorem dX4_fillTimes_83 : decode cX4_fillTimes 83 = .ok (.bipush 16, 2) := by decide +kernel
theorem dX4_fillTimes_85 : decode cX4_fillTimes 85 = .ok (.imul, 1) := by decide +kernel
theorem dX4_fillTimes_86 : decode cX4_fillTimes 86 = .ok (.iload 4, 2) := by decide +kernel
theorem dX4_fillTimes_88 : decode cX4_fillTimes 88 = .ok (.iadd, 1) := by decide +kernel
theorem dX4_fillTimes_89 : decode cX4_fillTimes 89 = .ok (.aload_n 0, 1) := by decide +kernel
theorem dX4_fillTimes_90 : decode cX4_fillTimes 90 = .ok (.getfield 29, 3) := by decide +kernel
theorem dX4_fillTimes_93 : decode cX4_fillTimes 93 = .ok (.iastore, 1) := by decide +kernel
theorem dX4_fillTimes_94 : decode cX4_fillTimes 94 = .ok (.iinc 4 1, 3) := by decide +kernel
theorem dX4_fillTimes_97 : decode cX4_fillTimes 97 = .ok (.goto (-82), 3) := by decide +kernel
theorem dX4_fillTimes_100 : decode cX4_fillTimes 100 = .ok (.iinc 3 1, 3) := by decide +kernel
theorem dX4_fillTimes_103 : decode cX4_fillTimes 103 = .ok (.goto (-101), 3) := by decide +kernel
theorem dX4_fillTimes_106 : decode cX4_fillTimes 106 = .ok (.return_, 1) := by decide +kernel
set_option maxRecDepth 20000 in
theorem ggX4_choose_X6_find : GoodIn wsX4_choose wsX6_find := goodIn_r _ [9, 10, 11, 51, 52] (by decide +kernel) (by decide +kernel)
set_option maxRecDepth 20000 in
theorem gX4_choose_X6_find : GoodIn wsX4_choose (wsV RX4 35 RX6 yX6_find wsX6_find) := goodIn_app (goodIn_of _ (by decide +kernel)) ggX4_choose_X6_find
set_option maxRecDepth 20000 in
theorem ggX4_choose_X4_isIn : GoodIn wsX4_choose wsX4_isIn := goodIn_r _ [15] (by decide +kernel) (by decide +kernel)
set_option maxRecDepth 20000 in
theorem gX4_choose_X4_isIn : GoodIn wsX4_choose (va_wsS RX4 52 yX4_isIn wsX4_isIn) := goodIn_app (goodIn_of _ (by decide +kernel)) ggX4_choose_X4_isIn
set_option maxRecDepth 20000 in
theorem ggX4_choose_X4_isEastbound : GoodIn wsX4_choose wsX4_isEastbound := goodIn_r _ [18] (by decide +kernel) (by decide +kernel)
set_option maxRecDepth 20000 in
theorem gX4_choose_X4_isEastbound : GoodIn wsX4_choose (va_wsS RX4 39 yX4_isEastbound wsX4_isEastbound) := goodIn_app (goodIn_of _ (by decide +kernel)) ggX4_choose_X4_isEastbound
set_option maxRecDepth 20000 in
theorem ggX4_choose_X0_transferTime : GoodIn wsX4_choose wsX0_transferTime := goodIn_r _ [23, 24, 25, 26, 27, 28, 29, 30, 31, 32, 33, 34, 35, 36, 37, 38, 39, 40, 53, 54, 55, 56, 57, 58, 59] (by decide +kernel) (by decide +kernel)
set_option maxRecDepth 20000 in
theorem gX4_choose_X0_transferTime : GoodIn wsX4_choose (wsV RX4 56 RX0 yX0_transferTime wsX0_transferTime) := goodIn_app (goodIn_of _ (by decide +kernel)) ggX4_choose_X0_transferTime
set_option maxRecDepth 20000 in
theorem ggX4_choose_X0_flightTime : GoodIn wsX4_choose wsX0_flightTime := goodIn_r _ [44, 29, 45, 46, 47, 38, 39, 40, 57, 58, 59, 53, 54, 55, 56] (by decide +kernel) (by decide +kernel)
set_option maxRecDepth 20000 in
theorem gX4_choose_X0_flightTime : GoodIn wsX4_choose (wsV RX4 62 RX0 yX0_flightTime wsX0_flightTime) := goodIn_app (goodIn_of _ (by decide +kernel)) ggX4_choose_X0_flightTime
theorem dX4_choose_0 : decode cX4_choose 0 = .ok (.aload_n 0, 1) := by decide +kernel
theorem dX4_choose_1 : decode cX4_choose 1 = .ok (.bipush (-6), 2) := by decide +kernel
theorem dX4_choose_3 : decode cX4_choose 3 = .ok (.putfield 32, 3) := by decide +kernel
theorem dX4_choose_6 : decode cX4_choose 6 = .ok (.aload_n 0, 1) := by decide +kernel
theorem dX4_choose_7 : decode cX4_choose 7 = .ok (.iconst 0, 1) := by decide +kernel
theorem dX4_choose_8 : decode cX4_choose 8 = .ok (.putfield 29, 3) := by decide +kernel
theorem dX4_choose_11 : decode cX4_choose 11 = .ok (.iconst 0, 1) := by decide +kernel
theorem dX4_choose_12 : decode cX4_choose 12 = .ok (.istore 6, 2) := by decide +kernel
theorem dX4_choose_14 : decode cX4_choose 14 = .ok (.iload 6, 2) := by decide +kernel
theorem dX4_choose_16 : decode cX4_choose 16 = .ok (.iconst 2, 1) := by decide +kernel
theorem dX4_choose_17 : decode cX4_choose 17 = .ok (.aload_n 1, 1) := by decide +kernel
theorem dX4_choose_18 : decode cX4_choose 18 = .ok (.getfield 19, 3) := by decide +kernel
theorem dX4_choose_21 : decode cX4_choose 21 = .ok (.imul, 1) := by decide +kernel
theorem dX4_choose_22 : decode cX4_choose 22 = .ok (.if_icmp .ge 121, 3) := by decide +kernel
theorem dX4_choose_25 : decode cX4_choose 25 = .ok (.aload_n 1, 1) := by decide +kernel
theorem dX4_choose_26 : decode cX4_choose 26 = .ok (.iload 6, 2) := by decide +kernel
theorem dX4_choose_28 : decode cX4_choose 28 = .ok (.iconst 2, 1) := by decide +kernel
theorem dX4_choose_29 : decode cX4_choose 29 = .ok (.idiv, 1) := by decide +kernel
theorem dX4_choose_30 : decode cX4_choose 30 = .ok (.invokevirtual 35, 3) := by decide +kernel
theorem dX4_choose_33 : decode cX4_choose 33 = .ok (.astore 7, 2) := by decide +kernel
theorem dX4_choose_35 : decode cX4_choose 35 = .ok (.aload 7, 2) := by decide +kernel
theorem dX4_choose_37 : decode cX4_choose 37 = .ok (.ifnull 100, 3) := by decide +kernel
theorem dX4_choose_40 : decode cX4_choose 40 = .ok (.iload_n 3, 1) := by decide +kernel
theorem dX4_choose_41 : decode cX4_choose 41 = .ok (.iload 6, 2) := by decide +kernel
theorem dX4_choose_43 : decode cX4_choose 43 = .ok (.iconst 2, 1) := by decide +kernel
theorem dX4_choose_44 : decode cX4_choose 44 = .ok (.idiv, 1) := by decide +kernel
theorem dX4_choose_45 : decode cX4_choose 45 = .ok (.invokestatic 52, 3) := by decide +kernel
theorem dX4_choose_48 : decode cX4_choose 48 = .ok (.ifCond .eq 89, 3) := by decide +kernel
theorem dX4_choose_51 : decode cX4_choose 51 = .ok (.iload 6, 2) := by decide +kernel
theorem dX4_choose_53 : decode cX4_choose 53 = .ok (.invokestatic 39, 3) := by decide +kernel
theorem dX4_choose_56 : decode cX4_choose 56 = .ok (.istore 8, 2) := by decide +kernel
theorem dX4_choose_58 : decode cX4_choose 58 = .ok (.iload_n 3, 1) := by decide +kernel
theorem dX4_choose_59 : decode cX4_choose 59 = .ok (.iconst 1, 1) := by decide +kernel
theorem dX4_choose_60 : decode cX4_choose 60 = .ok (.iload 6, 2) := by decide +kernel
theorem dX4_choose_62 : decode cX4_choose 62 = .ok (.iconst 2, 1) := by decide +kernel
theorem dX4_choose_63 : decode cX4_choose 63 = .ok (.idiv, 1) := by decide +kernel
theorem dX4_choose_64 : decode cX4_choose 64 = .ok (.ishl, 1) := by decide +kernel
theorem dX4_choose_65 : decode cX4_choose 65 = .ok (.iconst (-1), 1) := by decide +kernel
theorem dX4_choose_66 : decode cX4_choose 66 = .ok (.ixor, 1) := by decide +kernel
theorem dX4_choose_67 : decode cX4_choose 67 = .ok (.iand, 1) := by decide +kernel
theorem dX4_choose_68 : decode cX4_choose 68 = .ok (.istore 9, 2) := by decide +kernel
theorem dX4_choose_70 : decode cX4_choose 70 = .ok (.aload_n 2, 1) := by decide +kernel
theorem dX4_choose_71 : decode cX4_choose 71 = .ok (.iload 4, 2) := by decide +kernel
theorem dX4_choose_73 : decode cX4_choose 73 = .ok (.iload 5, 2) := by decide +kernel
theorem dX4_choose_75 : decode cX4_choose 75 = .ok (.aload 7, 2) := by decide +kernel
theorem dX4_choose_77 : decode cX4_choose 77 = .ok (.iload 8, 2) := by decide +kernel
theorem dX4_choose_79 : decode cX4_choose 79 = .ok (.invokevirtual 56, 3) := by decide +kernel
theorem dX4_choose_82 : decode cX4_choose 82 = .ok (.aload_n 2, 1) := by decide +kernel
theorem dX4_choose_83 : decode cX4_choose 83 = .ok (.aload 7, 2) := by decide +kernel
theorem dX4_choose_85 : decode cX4_choose 85 = .ok (.iload 8, 2) := by decide +kernel
theorem dX4_choose_87 : decode cX4_choose 87 = .ok (.invokevirtual 62, 3) := by decide +kernel
theorem dX4_choose_90 : decode cX4_choose 90 = .ok (.iadd, 1) := by decide +kernel
theorem dX4_choose_91 : decode cX4_choose 91 = .ok (.aload_n 0, 1) := by decide +kernel
theorem dX4_choose_92 : decode cX4_choose 92 = .ok (.getfield 11, 3) := by decide +kernel
theorem dX4_choose_95 : decode cX4_choose 95 = .ok (.iload 9, 2) := by decide +kernel
theorem dX4_choose_97 : decode cX4_choose 97 = .ok (.bipush 16, 2) := by decide +kernel
theorem dX4_choose_99 : decode cX4_choose 99 = .ok (.imul, 1) := by decide +kernel
theorem dX4_choose_100 : decode cX4_choose 100 = .ok (.iload 6, 2) := by decide +kernel
theorem dX4_choose_102 : decode cX4_choose 102 = .ok (.iadd, 1) := by decide +kernel
theorem dX4_choose_103 : decode cX4_choose 103 = .ok (.iaload, 1) := by decide +kernel
theorem dX4_choose_104 : decode cX4_choose 104 = .ok (.iadd, 1) := by decide +kernel
theorem dX4_choose_105 : decode cX4_choose 105 = .ok (.istore 10, 2) := by decide +kernel
theorem dX4_choose_107 : decode cX4_choose 107 = .ok (.aload_n 0, 1) := by decide +kernel
theorem dX4_choose_108 : decode cX4_choose 108 = .ok (.getfield 32, 3) := by decide +kernel
theorem dX4_choose_111 : decode cX4_choose 111 = .ok (.bipush (-6), 2) := by decide +kernel
theorem dX4_choose_113 : decode cX4_choose 113 = .ok (.if_icmp .eq 12, 3) := by decide +kernel
theorem dX4_choose_116 : decode cX4_choose 116 = .ok (.iload 10, 2) := by decide +kernel
theorem dX4_choose_118 : decode cX4_choose 118 = .ok (.aload_n 0, 1) := by decide +kernel
theorem dX4_choose_119 : decode cX4_choose 119 = .ok (.getfield 29, 3) := by decide +kernel
theorem dX4_choose_122 : decode cX4_choose 122 = .ok (.if_icmp .ge 15, 3) := by decide +kernel
theorem dX4_choose_125 : decode cX4_choose 125 = .ok (.aload_n 0, 1) := by decide +kernel
theorem dX4_choose_126 : decode cX4_choose 126 = .ok (.iload 6, 2) := by decide +kernel
theorem dX4_choose_128 : decode cX4_choose 128 = .ok (.putfield 32, 3) := by decide +kernel
theorem dX4_choose_131 : decode cX4_choose 131 = .ok (.aload_n 0, 1) := by decide +kernel
theorem dX4_choose_132 : decode cX4_choose 132 = .ok (.iload 10, 2) := by decide +kernel
theorem dX4_choose_134 : decode cX4_choose 134 = .ok (.putfield 29, 3) := by decide +kernel
theorem dX4_choose_137 : decode cX4_choose 137 = .ok (.iinc 6 1, 3) := by decide +kernel
theorem dX4_choose_140 : decode cX4_choose 140 = .ok (.goto (-126), 3) := by decide +kernel
theorem dX4_choose_143 : decode cX4_choose 143 = .ok (.return_, 1) := by decide +kernel
theorem dX4_isIn_0 : decode cX4_isIn 0 = .ok (.iload_n 0, 1) := by decide +kernel
theorem dX4_isIn_1 : decode cX4_isIn 1 = .ok (.iload_n 1, 1) := by decide +kernel
theorem dX4_isIn_2 : decode cX4_isIn 2 = .ok (.ishr, 1) := by decide +kernel
theorem dX4_isIn_3 : decode cX4_isIn 3 = .ok (.iconst 1, 1) := by decide +kernel
theorem dX4_isIn_4 : decode cX4_isIn 4 = .ok (.iand, 1) := by decide +kernel
theorem dX4_isIn_5 : decode cX4_isIn 5 = .ok (.iconst 1, 1) := by decide +kernel
theorem dX4_isIn_6 : decode cX4_isIn 6 = .ok (.if_icmp .ne 7, 3) := by decide +kernel
theorem dX4_isIn_9 : decode cX4_isIn 9 = .ok (.iconst 1, 1) := by decide +kernel
theorem dX4_isIn_10 : decode cX4_isIn 10 = .ok (.goto 4, 3) := by decide +kernel
theorem dX4_isIn_13 : decode cX4_isIn 13 = .ok (.iconst 0, 1) := by decide +kernel
theorem dX4_isIn_14 : decode cX4_isIn 14 = .ok (.ireturn, 1) := by decide +kernel
theorem dX4_isEastbound_0 : decode cX4_isEastbound 0 = .ok (.iload_n 0, 1) := by decide +kernel
theorem dX4_isEastbound_1 : decode cX4_isEastbound 1 = .ok (.iconst 2, 1) := by decide +kernel
theorem dX4_isEastbound_2 : decode cX4_isEastbound 2 = .ok (.irem, 1) := by decide +kernel
theorem dX4_isEastbound_3 : decode cX4_isEastbound 3 = .ok (.ifCond .ne 7, 3) := by decide +kernel
theorem dX4_isEastbound_6 : decode cX4_isEastbound 6 = .ok (.iconst 1, 1) := by decide +kernel
theorem dX4_isEastbound_7 : decode cX4_isEastbound 7 = .ok (.goto 4, 3) := by decide +kernel
theorem dX4_isEastbound_10 : decode cX4_isEastbound 10 = .ok (.iconst 0, 1) := by decide +kernel
theorem dX4_isEastbound_11 : decode cX4_isEastbound 11 = .ok (.ireturn, 1) := by decide +kernel
theorem dX5_init_0 : decode cX5_init 0 = .ok (.aload_n 0, 1) := by decide +kernel
theorem dX5_init_1 : decode cX5_init 1 = .ok (.invokespecial 1, 3) := by decide +kernel
theorem dX5_init_4 : decode cX5_init 4 = .ok (.return_, 1) := by decide +kernel
theorem dX5_put_0 : decode cX5_put 0 = .ok (.aload_n 0, 1) := by decide +kernel
theorem dX5_put_1 : decode cX5_put 1 = .ok (.iload_n 1, 1) := by decide +kernel
theorem dX5_put_2 : decode cX5_put 2 = .ok (.putfield 7, 3) := by decide +kernel
theorem dX5_put_5 : decode cX5_put 5 = .ok (.aload_n 0, 1) := by decide +kernel
theorem dX5_put_6 : decode cX5_put 6 = .ok (.iload_n 2, 1) := by decide +kernel
theorem dX5_put_7 : decode cX5_put 7 = .ok (.putfield 13, 3) := by decide +kernel
theorem dX5_put_10 : decode cX5_put 10 = .ok (.aload_n 0, 1) := by decide +kernel
theorem dX5_put_11 : decode cX5_put 11 = .ok (.iload_n 3, 1) := by decide +kernel
theorem dX5_put_12 : decode cX5_put 12 = .ok (.putfield 16, 3) := by decide +kernel
theorem dX5_put_15 : decode cX5_put 15 = .ok (.aload_n 0, 1) := by decide +kernel
theorem dX5_put_16 : decode cX5_put 16 = .ok (.iload 4, 2) := by decide +kernel
theorem dX5_put_18 : decode cX5_put 18 = .ok (.putfield 19, 3) := by decide +kernel
theorem dX5_put_21 : decode cX5_put 21 = .ok (.return_, 1) := by decide +kernel
set_option maxRecDepth 20000 in
theorem ggX5_photos_X8_quotient : GoodIn wsX5_photos wsX8_quotient := goodIn_r _ [6] (by decide +kernel) (by decide +kernel)
set_option maxRecDepth 20000 in
theorem gX5_photos_X8_quotient_n22 : GoodIn wsX5_photos (wsX8_quotient) := ggX5_photos_X8_quotient
theorem dX5_photos_0 : decode cX5_photos 0 = .ok (.aload_n 0, 1) := by decide +kernel
theorem dX5_photos_1 : decode cX5_photos 1 = .ok (.getfield 16, 3) := by decide +kernel
theorem dX5_photos_4 : decode cX5_photos 4 = .ok (.aload_n 0, 1) := by decide +kernel
theorem dX5_photos_5 : decode cX5_photos 5 = .ok (.getfield 13, 3) := by decide +kernel
theorem dX5_photos_8 : decode cX5_photos 8 = .ok (.isub, 1) := by decide +kernel
theorem dX5_photos_9 : decode cX5_photos 9 = .ok (.aload_n 0, 1) := by decide +kernel
theorem dX5_photos_10 : decode cX5_photos 10 = .ok (.getfield 19, 3) := by decide +kernel
theorem dX5_photos_13 : decode cX5_photos 13 = .ok (.invokestatic 22, 3) := by decide +kernel
theorem dX5_photos_16 : decode cX5_photos 16 = .ok (.iconst 1, 1) := by decide +kernel
theorem dX5_photos_17 : decode cX5_photos 17 = .ok (.iadd, 1) := by decide +kernel
theorem dX5_photos_18 : decode cX5_photos 18 = .ok (.ireturn, 1) := by decide +kernel
set_option maxRecDepth 20000 in
theorem ggX5_hasPhoto_X5_photos : GoodIn wsX5_hasPhoto wsX5_photos := goodIn_r _ [5, 6, 7, 8, 9, 10, 11, 12, 13, 14, 15] (by decide +kernel) (by decide +kernel)
set_option maxRecDepth 20000 in
theorem gX5_hasPhoto_X5_photos : GoodIn wsX5_hasPhoto (wsV RX5 28 RX5 yX5_photos wsX5_photos) := goodIn_app (goodIn_of _ (by decide +kernel)) ggX5_hasPhoto_X5_photos
theorem dX5_hasPhoto_0 : decode cX5_hasPhoto 0 = .ok (.iload_n 1, 1) := by decide +kernel
theorem dX5_hasPhoto_1 : decode cX5_hasPhoto 1 = .ok (.ifCond .lt 15, 3) := by decide +kernel
theorem dX5_hasPhoto_4 : decode cX5_hasPhoto 4 = .ok (.iload_n 1, 1) := by decide +kernel
theorem dX5_hasPhoto_5 : decode cX5_hasPhoto 5 = .ok (.aload_n 0, 1) := by decide +kernel
theorem dX5_hasPhoto_6 : decode cX5_hasPhoto 6 = .ok (.invokevirtual 28, 3) := by decide +kernel
theorem dX5_hasPhoto_9 : decode cX5_hasPhoto 9 = .ok (.if_icmp .ge 7, 3) := by decide +kernel
theorem dX5_hasPhoto_12 : decode cX5_hasPhoto 12 = .ok (.iconst 1, 1) := by decide +kernel
theorem dX5_hasPhoto_13 : decode cX5_hasPhoto 13 = .ok (.goto 4, 3) := by decide +kernel
theorem dX5_hasPhoto_16 : decode cX5_hasPhoto 16 = .ok (.iconst 0, 1) := by decide +kernel
theorem dX5_hasPhoto_17 : decode cX5_hasPhoto 17 = .ok (.ireturn, 1) := by decide +kernel
theorem dX5_columnOf_0 : decode cX5_columnOf 0 = .ok (.aload_n 0, 1) := by decide +kernel
theorem dX5_columnOf_1 : decode cX5_columnOf 1 = .ok (.getfield 13, 3) := by decide +kernel
theorem dX5_columnOf_4 : decode cX5_columnOf 4 = .ok (.iload_n 1, 1) := by decide +kernel
theorem dX5_columnOf_5 : decode cX5_columnOf 5 = .ok (.aload_n 0, 1) := by decide +kernel
theorem dX5_columnOf_6 : decode cX5_columnOf 6 = .ok (.getfield 19, 3) := by decide +kernel
theorem dX5_columnOf_9 : decode cX5_columnOf 9 = .ok (.imul, 1) := by decide +kernel
theorem dX5_columnOf_10 : decode cX5_columnOf 10 = .ok (.iadd, 1) := by decide +kernel
theorem dX5_columnOf_11 : decode cX5_columnOf 11 = .ok (.ireturn, 1) := by decide +kernel
theorem dX5_entryColumn_0 : decode cX5_entryColumn 0 = .ok (.iload_n 1, 1) := by decide +kernel
theorem dX5_entryColumn_1 : decode cX5_entryColumn 1 = .ok (.ifCond .eq 10, 3) := by decide +kernel
theorem dX5_entryColumn_4 : decode cX5_entryColumn 4 = .ok (.aload_n 0, 1) := by decide +kernel
theorem dX5_entryColumn_5 : decode cX5_entryColumn 5 = .ok (.getfield 13, 3) := by decide +kernel
theorem dX5_entryColumn_8 : decode cX5_entryColumn 8 = .ok (.goto 7, 3) := by decide +kernel
theorem dX5_entryColumn_11 : decode cX5_entryColumn 11 = .ok (.aload_n 0, 1) := by decide +kernel
theorem dX5_entryColumn_12 : decode cX5_entryColumn 12 = .ok (.getfield 16, 3) := by decide +kernel
theorem dX5_entryColumn_15 : decode cX5_entryColumn 15 = .ok (.ireturn, 1) := by decide +kernel
theorem dX5_exitColumn_0 : decode cX5_exitColumn 0 = .ok (.iload_n 1, 1) := by decide +kernel
theorem dX5_exitColumn_1 : decode cX5_exitColumn 1 = .ok (.ifCond .eq 10, 3) := by decide +kernel
theorem dX5_exitColumn_4 : decode cX5_exitColumn 4 = .ok (.aload_n 0, 1) := by decide +kernel
theorem dX5_exitColumn_5 : decode cX5_exitColumn 5 = .ok (.getfield 16, 3) := by decide +kernel
theorem dX5_exitColumn_8 : decode cX5_exitColumn 8 = .ok (.goto 7, 3) := by decide +kernel
theorem dX5_exitColumn_11 : decode cX5_exitColumn 11 = .ok (.aload_n 0, 1) := by decide +kernel
theorem dX5_exitColumn_12 : decode cX5_exitColumn 12 = .ok (.getfield 13, 3) := by decide +kernel
theorem dX5_exitColumn_15 : decode cX5_exitColumn 15 = .ok (.ireturn, 1) := by decide +kernel
set_option maxRecDepth 20000 in
theorem ggX5_sees_X5_photos : GoodIn wsX5_sees wsX5_photos := goodIn_r _ [6, 7, 8, 9, 10, 11, 12, 47, 48, 49, 50] (by decide +kernel) (by decide +kernel)
set_option maxRecDepth 20000 in
theorem gX5_sees_X5_photos : GoodIn wsX5_sees (wsV RX5 28 RX5 yX5_photos wsX5_photos) := goodIn_app (goodIn_of _ (by decide +kernel)) ggX5_sees_X5_photos
set_option maxRecDepth 20000 in
theorem ggX5_sees_X5_columnOf : GoodIn wsX5_sees wsX5_columnOf := goodIn_r _ [16, 8, 9, 47, 48, 49, 50] (by decide +kernel) (by decide +kernel)
set_option maxRecDepth 20000 in
theorem gX5_sees_X5_columnOf : GoodIn wsX5_sees (wsV RX5 32 RX5 yX5_columnOf wsX5_columnOf) := goodIn_app (goodIn_of _ (by decide +kernel)) ggX5_sees_X5_columnOf
set_option maxRecDepth 20000 in
theorem ggX5_sees_X1_sees : GoodIn wsX5_sees wsX1_sees := goodIn_r _ [21, 22, 23, 24, 25, 26, 27, 28, 29, 30, 31, 32, 33, 34, 35, 36, 37, 38, 20, 39, 40, 41, 42, 43, 44, 45, 46, 51, 52, 53, 54, 55, 56, 57] (by decide +kernel) (by decide +kernel)
set_option maxRecDepth 20000 in
theorem gX5_sees_X1_sees : GoodIn wsX5_sees (wsV RX5 36 RX1 yX1_sees wsX1_sees) := goodIn_app (goodIn_of _ (by decide +kernel)) ggX5_sees_X1_sees
theorem dX5_sees_0 : decode cX5_sees 0 = .ok (.aload_n 0, 1) := by decide +kernel
theorem dX5_sees_1 : decode cX5_sees 1 = .ok (.invokevirtual 28, 3) := by decide +kernel
theorem dX5_sees_4 : decode cX5_sees 4 = .ok (.istore 5, 2) := by decide +kernel
theorem dX5_sees_6 : decode cX5_sees 6 = .ok (.iconst 0, 1) := by decide +kernel
theorem dX5_sees_7 : decode cX5_sees 7 = .ok (.istore 6, 2) := by decide +kernel
theorem dX5_sees_9 : decode cX5_sees 9 = .ok (.iload 6, 2) := by decide +kernel
theorem dX5_sees_11 : decode cX5_sees 11 = .ok (.iload 5, 2) := by decide +kernel
theorem dX5_sees_13 : decode cX5_sees 13 = .ok (.if_icmp .ge 32, 3) := by decide +kernel
theorem dX5_sees_16 : decode cX5_sees 16 = .ok (.aload_n 2, 1) := by decide +kernel
theorem dX5_sees_17 : decode cX5_sees 17 = .ok (.aload_n 1, 1) := by decide +kernel
theorem dX5_sees_18 : decode cX5_sees 18 = .ok (.aload_n 0, 1) := by decide +kernel
theorem dX5_sees_19 : decode cX5_sees 19 = .ok (.getfield 7, 3) := by decide +kernel
theorem dX5_sees_22 : decode cX5_sees 22 = .ok (.aload_n 0, 1) := by decide +kernel
theorem dX5_sees_23 : decode cX5_sees 23 = .ok (.iload 6, 2) := by decide +kernel
theorem dX5_sees_25 : decode cX5_sees 25 = .ok (.invokevirtual 32, 3) := by decide +kernel
theorem dX5_sees_28 : decode cX5_sees 28 = .ok (.iload_n 3, 1) := by decide +kernel
theorem dX5_sees_29 : decode cX5_sees 29 = .ok (.iload 4, 2) := by decide +kernel
theorem dX5_sees_31 : decode cX5_sees 31 = .ok (.invokevirtual 36, 3) := by decide +kernel
theorem dX5_sees_34 : decode cX5_sees 34 = .ok (.ifCond .eq 5, 3) := by decide +kernel
theorem dX5_sees_37 : decode cX5_sees 37 = .ok (.iconst 1, 1) := by decide +kernel
theorem dX5_sees_38 : decode cX5_sees 38 = .ok (.ireturn, 1) := by decide +kernel
theorem dX5_sees_39 : decode cX5_sees 39 = .ok (.iinc 6 1, 3) := by decide +kernel
theorem dX5_sees_42 : decode cX5_sees 42 = .ok (.goto (-33), 3) := by decide +kernel
theorem dX5_sees_45 : decode cX5_sees 45 = .ok (.iconst 0, 1) := by decide +kernel
theorem dX5_sees_46 : decode cX5_sees 46 = .ok (.ireturn, 1) := by decide +kernel
set_option maxRecDepth 20000 in
theorem ggX6_init_X5_init : GoodIn wsX6_init wsX5_init := goodIn_r _ [9, 10, 2, 3] (by decide +kernel) (by decide +kernel)
set_option maxRecDepth 20000 in
theorem gX6_init_X5_init_n17 : GoodIn wsX6_init (wsX5_init) := ggX6_init_X5_init
theorem dX6_init_0 : decode cX6_init 0 = .ok (.aload_n 0, 1) := by decide +kernel
theorem dX6_init_1 : decode cX6_init 1 = .ok (.invokespecial 3, 3) := by decide +kernel
theorem dX6_init_4 : decode cX6_init 4 = .ok (.aload_n 0, 1) := by decide +kernel
theorem dX6_init_5 : decode cX6_init 5 = .ok (.bipush 8, 2) := by decide +kernel
theorem dX6_init_7 : decode cX6_init 7 = .ok (.anewarray 9, 3) := by decide +kernel
theorem dX6_init_10 : decode cX6_init 10 = .ok (.putfield 11, 3) := by decide +kernel
theorem dX6_init_13 : decode cX6_init 13 = .ok (.iconst 0, 1) := by decide +kernel
theorem dX6_init_14 : decode cX6_init 14 = .ok (.istore_n 1, 1) := by decide +kernel
theorem dX6_init_15 : decode cX6_init 15 = .ok (.iload_n 1, 1) := by decide +kernel
theorem dX6_init_16 : decode cX6_init 16 = .ok (.aload_n 0, 1) := by decide +kernel
theorem dX6_init_17 : decode cX6_init 17 = .ok (.getfield 11, 3) := by decide +kernel
theorem dX6_init_20 : decode cX6_init 20 = .ok (.arraylength, 1) := by decide +kernel
theorem dX6_init_21 : decode cX6_init 21 = .ok (.if_icmp .ge 22, 3) := by decide +kernel
theorem dX6_init_24 : decode cX6_init 24 = .ok (.aload_n 0, 1) := by decide +kernel
theorem dX6_init_25 : decode cX6_init 25 = .ok (.getfield 11, 3) := by decide +kernel
theorem dX6_init_28 : decode cX6_init 28 = .ok (.iload_n 1, 1) := by decide +kernel
theorem dX6_init_29 : decode cX6_init 29 = .ok (.new 9, 3) := by decide +kernel
theorem dX6_init_32 : decode cX6_init 32 = .ok (.dup, 1) := by decide +kernel
theorem dX6_init_33 : decode cX6_init 33 = .ok (.invokespecial 17, 3) := by decide +kernel
theorem dX6_init_36 : decode cX6_init 36 = .ok (.aastore, 1) := by decide +kernel
theorem dX6_init_37 : decode cX6_init 37 = .ok (.iinc 1 1, 3) := by decide +kernel
theorem dX6_init_40 : decode cX6_init 40 = .ok (.goto (-25), 3) := by decide +kernel
theorem dX6_init_43 : decode cX6_init 43 = .ok (.return_, 1) := by decide +kernel
theorem dX6_clear_0 : decode cX6_clear 0 = .ok (.aload_n 0, 1) := by decide +kernel
theorem dX6_clear_1 : decode cX6_clear 1 = .ok (.iconst 0, 1) := by decide +kernel
theorem dX6_clear_2 : decode cX6_clear 2 = .ok (.putfield 18, 3) := by decide +kernel
theorem dX6_clear_5 : decode cX6_clear 5 = .ok (.return_, 1) := by decide +kernel
theorem dX6_find_0 : decode cX6_find 0 = .ok (.iload_n 1, 1) := by decide +kernel
theorem dX6_find_1 : decode cX6_find 1 = .ok (.ifCond .lt 20, 3) := by decide +kernel
theorem dX6_find_4 : decode cX6_find 4 = .ok (.iload_n 1, 1) := by decide +kernel
theorem dX6_find_5 : decode cX6_find 5 = .ok (.aload_n 0, 1) := by decide +kernel
theorem dX6_find_6 : decode cX6_find 6 = .ok (.getfield 18, 3) := by decide +kernel
theorem dX6_find_9 : decode cX6_find 9 = .ok (.if_icmp .ge 12, 3) := by decide +kernel
theorem dX6_find_12 : decode cX6_find 12 = .ok (.aload_n 0, 1) := by decide +kernel
theorem dX6_find_13 : decode cX6_find 13 = .ok (.getfield 11, 3) := by decide +kernel
theorem dX6_find_16 : decode cX6_find 16 = .ok (.iload_n 1, 1) := by decide +kernel
theorem dX6_find_17 : decode cX6_find 17 = .ok (.aaload, 1) := by decide +kernel
theorem dX6_find_18 : decode cX6_find 18 = .ok (.goto 4, 3) := by decide +kernel
theorem dX6_find_21 : decode cX6_find 21 = .ok (.aconst_null, 1) := by decide +kernel
theorem dX6_find_22 : decode cX6_find 22 = .ok (.areturn, 1) := by decide +kernel
set_option maxRecDepth 20000 in
theorem ggX6_add_X5_put : GoodIn wsX6_add wsX5_put := goodIn_r _ [7, 8, 9, 10, 11, 14, 15, 16, 17] (by decide +kernel) (by decide +kernel)
set_option maxRecDepth 20000 in
theorem gX6_add_X5_put : GoodIn wsX6_add (wsV RX6 22 RX5 yX5_put wsX5_put) := goodIn_app (goodIn_of _ (by decide +kernel)) ggX6_add_X5_put
theorem dX6_add_0 : decode cX6_add 0 = .ok (.aload_n 0, 1) := by decide +kernel
theorem dX6_add_1 : decode cX6_add 1 = .ok (.getfield 18, 3) := by decide +kernel
theorem dX6_add_4 : decode cX6_add 4 = .ok (.aload_n 0, 1) := by decide +kernel
theorem dX6_add_5 : decode cX6_add 5 = .ok (.getfield 11, 3) := by decide +kernel
theorem dX6_add_8 : decode cX6_add 8 = .ok (.arraylength, 1) := by decide +kernel
theorem dX6_add_9 : decode cX6_add 9 = .ok (.if_icmp .lt 6, 3) := by decide +kernel
theorem dX6_add_12 : decode cX6_add 12 = .ok (.bipush (-5), 2) := by decide +kernel
theorem dX6_add_14 : decode cX6_add 14 = .ok (.ireturn, 1) := by decide +kernel
theorem dX6_add_15 : decode cX6_add 15 = .ok (.aload_n 0, 1) := by decide +kernel
theorem dX6_add_16 : decode cX6_add 16 = .ok (.getfield 11, 3) := by decide +kernel
theorem dX6_add_19 : decode cX6_add 19 = .ok (.aload_n 0, 1) := by decide +kernel
theorem dX6_add_20 : decode cX6_add 20 = .ok (.getfield 18, 3) := by decide +kernel
theorem dX6_add_23 : decode cX6_add 23 = .ok (.aaload, 1) := by decide +kernel
theorem dX6_add_24 : decode cX6_add 24 = .ok (.iload_n 1, 1) := by decide +kernel
theorem dX6_add_25 : decode cX6_add 25 = .ok (.iload_n 2, 1) := by decide +kernel
theorem dX6_add_26 : decode cX6_add 26 = .ok (.iload_n 3, 1) := by decide +kernel
theorem dX6_add_27 : decode cX6_add 27 = .ok (.iload 4, 2) := by decide +kernel
theorem dX6_add_29 : decode cX6_add 29 = .ok (.invokevirtual 22, 3) := by decide +kernel
theorem dX6_add_32 : decode cX6_add 32 = .ok (.aload_n 0, 1) := by decide +kernel
theorem dX6_add_33 : decode cX6_add 33 = .ok (.dup, 1) := by decide +kernel
theorem dX6_add_34 : decode cX6_add 34 = .ok (.getfield 18, 3) := by decide +kernel
theorem dX6_add_37 : decode cX6_add 37 = .ok (.iconst 1, 1) := by decide +kernel
theorem dX6_add_38 : decode cX6_add 38 = .ok (.iadd, 1) := by decide +kernel
theorem dX6_add_39 : decode cX6_add 39 = .ok (.putfield 18, 3) := by decide +kernel
theorem dX6_add_42 : decode cX6_add 42 = .ok (.aload_n 0, 1) := by decide +kernel
theorem dX6_add_43 : decode cX6_add 43 = .ok (.getfield 18, 3) := by decide +kernel
theorem dX6_add_46 : decode cX6_add 46 = .ok (.iconst 1, 1) := by decide +kernel
theorem dX6_add_47 : decode cX6_add 47 = .ok (.isub, 1) := by decide +kernel
theorem dX6_add_48 : decode cX6_add 48 = .ok (.ireturn, 1) := by decide +kernel
set_option maxRecDepth 20000 in
theorem ggX6_remove_X6_find : GoodIn wsX6_remove wsX6_find := goodIn_r _ [11, 1, 2, 21, 22] (by decide +kernel) (by decide +kernel)
set_option maxRecDepth 20000 in
theorem gX6_remove_X6_find : GoodIn wsX6_remove (wsV RX6 26 RX6 yX6_find wsX6_find) := goodIn_app (goodIn_of _ (by decide +kernel)) ggX6_remove_X6_find
set_option maxRecDepth 20000 in
theorem ggX6_remove_X5_put : GoodIn wsX6_remove wsX5_put := goodIn_r _ [16, 17, 18, 19, 20, 23, 24, 25, 26] (by decide +kernel) (by decide +kernel)
set_option maxRecDepth 20000 in
theorem gX6_remove_X5_put : GoodIn wsX6_remove (wsV RX6 22 RX5 yX5_put wsX5_put) := goodIn_app (goodIn_of _ (by decide +kernel)) ggX6_remove_X5_put
theorem dX6_remove_0 : decode cX6_remove 0 = .ok (.aload_n 0, 1) := by decide +kernel
theorem dX6_remove_1 : decode cX6_remove 1 = .ok (.iload_n 1, 1) := by decide +kernel
theorem dX6_remove_2 : decode cX6_remove 2 = .ok (.invokevirtual 26, 3) := by decide +kernel
theorem dX6_remove_5 : decode cX6_remove 5 = .ok (.ifnonnull 4, 3) := by decide +kernel
theorem dX6_remove_8 : decode cX6_remove 8 = .ok (.return_, 1) := by decide +kernel
theorem dX6_remove_9 : decode cX6_remove 9 = .ok (.iload_n 1, 1) := by decide +kernel
theorem dX6_remove_10 : decode cX6_remove 10 = .ok (.istore_n 2, 1) := by decide +kernel
theorem dX6_remove_11 : decode cX6_remove 11 = .ok (.iload_n 2, 1) := by decide +kernel
theorem dX6_remove_12 : decode cX6_remove 12 = .ok (.iconst 1, 1) := by decide +kernel
theorem dX6_remove_13 : decode cX6_remove 13 = .ok (.iadd, 1) := by decide +kernel
theorem dX6_remove_14 : decode cX6_remove 14 = .ok (.aload_n 0, 1) := by decide +kernel
theorem dX6_remove_15 : decode cX6_remove 15 = .ok (.getfield 18, 3) := by decide +kernel
theorem dX6_remove_18 : decode cX6_remove 18 = .ok (.if_icmp .ge 43, 3) := by decide +kernel
theorem dX6_remove_21 : decode cX6_remove 21 = .ok (.aload_n 0, 1) := by decide +kernel
theorem dX6_remove_22 : decode cX6_remove 22 = .ok (.getfield 11, 3) := by decide +kernel
theorem dX6_remove_25 : decode cX6_remove 25 = .ok (.iload_n 2, 1) := by decide +kernel
theorem dX6_remove_26 : decode cX6_remove 26 = .ok (.iconst 1, 1) := by decide +kernel
theorem dX6_remove_27 : decode cX6_remove 27 = .ok (.iadd, 1) := by decide +kernel
theorem dX6_remove_28 : decode cX6_remove 28 = .ok (.aaload, 1) := by decide +kernel
theorem dX6_remove_29 : decode cX6_remove 29 = .ok (.astore_n 3, 1) := by decide +kernel
theorem dX6_remove_30 : decode cX6_remove 30 = .ok (.aload_n 0, 1) := by decide +kernel
theorem dX6_remove_31 : decode cX6_remove 31 = .ok (.getfield 11, 3) := by decide +kernel
theorem dX6_remove_34 : decode cX6_remove 34 = .ok (.iload_n 2, 1) := by decide +kernel
theorem dX6_remove_35 : decode cX6_remove 35 = .ok (.aaload, 1) := by decide +kernel
theorem dX6_remove_36 : decode cX6_remove 36 = .ok (.aload_n 3, 1) := by decide +kernel
theorem dX6_remove_37 : decode cX6_remove 37 = .ok (.getfield 30, 3) := by decide +kernel
theorem dX6_remove_40 : decode cX6_remove 40 = .ok (.aload_n 3, 1) := by decide +kernel
theorem dX6_remove_41 : decode cX6_remove 41 = .ok (.getfield 33, 3) := by decide +kernel
theorem dX6_remove_44 : decode cX6_remove 44 = .ok (.aload_n 3, 1) := by decide +kernel
theorem dX6_remove_45 : decode cX6_remove 45 = .ok (.getfield 36, 3) := by decide +kernel
theorem dX6_remove_48 : decode cX6_remove 48 = .ok (.aload_n 3, 1) := by decide +kernel
theorem dX6_remove_49 : decode cX6_remove 49 = .ok (.getfield 39, 3) := by decide +kernel
theorem dX6_remove_52 : decode cX6_remove 52 = .ok (.invokevirtual 22, 3) := by decide +kernel
theorem dX6_remove_55 : decode cX6_remove 55 = .ok (.iinc 2 1, 3) := by decide +kernel
theorem dX6_remove_58 : decode cX6_remove 58 = .ok (.goto (-47), 3) := by decide +kernel
theorem dX6_remove_61 : decode cX6_remove 61 = .ok (.aload_n 0, 1) := by decide +kernel
theorem dX6_remove_62 : decode cX6_remove 62 = .ok (.dup, 1) := by decide +kernel
theorem dX6_remove_63 : decode cX6_remove 63 = .ok (.getfield 18, 3) := by decide +kernel
theorem dX6_remove_66 : decode cX6_remove 66 = .ok (.iconst 1, 1) := by decide +kernel
theorem dX6_remove_67 : decode cX6_remove 67 = .ok (.isub, 1) := by decide +kernel
theorem dX6_remove_68 : decode cX6_remove 68 = .ok (.putfield 18, 3) := by decide +kernel
theorem dX6_remove_71 : decode cX6_remove 71 = .ok (.return_, 1) := by decide +kernel
set_option maxRecDepth 20000 in
theorem ggX6_layOut_X8_quotient : GoodIn wsX6_layOut wsX8_quotient := goodIn_r _ [6] (by decide +kernel) (by decide +kernel)
set_option maxRecDepth 20000 in
theorem gX6_layOut_X8_quotient_n47 : GoodIn wsX6_layOut (wsX8_quotient) := ggX6_layOut_X8_quotient
set_option maxRecDepth 20000 in
theorem ggX6_layOut_X6_clear : GoodIn wsX6_layOut wsX6_clear := goodIn_r _ [11, 12, 29, 30] (by decide +kernel) (by decide +kernel)
set_option maxRecDepth 20000 in
theorem gX6_layOut_X6_clear : GoodIn wsX6_layOut (wsV RX6 51 RX6 yX6_clear wsX6_clear) := goodIn_app (goodIn_of _ (by decide +kernel)) ggX6_layOut_X6_clear
set_option maxRecDepth 20000 in
theorem ggX6_layOut_X6_add : GoodIn wsX6_layOut wsX6_add := goodIn_r _ [16, 12, 2, 17, 18, 19, 20, 21, 22, 23, 24, 25, 29, 30, 31, 32, 33, 34] (by decide +kernel) (by decide +kernel)
set_option maxRecDepth 20000 in
theorem gX6_layOut_X6_add : GoodIn wsX6_layOut (wsV RX6 57 RX6 yX6_add wsX6_add) := goodIn_app (goodIn_of _ (by decide +kernel)) ggX6_layOut_X6_add
theorem dX6_layOut_0 : decode cX6_layOut 0 = .ok (.iload_n 2, 1) := by decide +kernel
theorem dX6_layOut_1 : decode cX6_layOut 1 = .ok (.iconst 2, 1) := by decide +kernel
theorem dX6_layOut_2 : decode cX6_layOut 2 = .ok (.idiv, 1) := by decide +kernel
theorem dX6_layOut_3 : decode cX6_layOut 3 = .ok (.istore 4, 2) := by decide +kernel
theorem dX6_layOut_5 : decode cX6_layOut 5 = .ok (.aload_n 1, 1) := by decide +kernel
theorem dX6_layOut_6 : decode cX6_layOut 6 = .ok (.getfield 42, 3) := by decide +kernel
theorem dX6_layOut_9 : decode cX6_layOut 9 = .ok (.iconst 1, 1) := by decide +kernel
theorem dX6_layOut_10 : decode cX6_layOut 10 = .ok (.isub, 1) := by decide +kernel
theorem dX6_layOut_11 : decode cX6_layOut 11 = .ok (.iload 4, 2) := by decide +kernel
theorem dX6_layOut_13 : decode cX6_layOut 13 = .ok (.isub, 1) := by decide +kernel
theorem dX6_layOut_14 : decode cX6_layOut 14 = .ok (.iload_n 2, 1) := by decide +kernel
theorem dX6_layOut_15 : decode cX6_layOut 15 = .ok (.invokestatic 47, 3) := by decide +kernel
theorem dX6_layOut_18 : decode cX6_layOut 18 = .ok (.iconst 1, 1) := by decide +kernel
theorem dX6_layOut_19 : decode cX6_layOut 19 = .ok (.iadd, 1) := by decide +kernel
theorem dX6_layOut_20 : decode cX6_layOut 20 = .ok (.istore 5, 2) := by decide +kernel
theorem dX6_layOut_22 : decode cX6_layOut 22 = .ok (.iload 5, 2) := by decide +kernel
theorem dX6_layOut_24 : decode cX6_layOut 24 = .ok (.aload_n 0, 1) := by decide +kernel
theorem dX6_layOut_25 : decode cX6_layOut 25 = .ok (.getfield 11, 3) := by decide +kernel
theorem dX6_layOut_28 : decode cX6_layOut 28 = .ok (.arraylength, 1) := by decide +kernel
theorem dX6_layOut_29 : decode cX6_layOut 29 = .ok (.if_icmp .le 5, 3) := by decide +kernel
theorem dX6_layOut_32 : decode cX6_layOut 32 = .ok (.iconst 0, 1) := by decide +kernel
theorem dX6_layOut_33 : decode cX6_layOut 33 = .ok (.ireturn, 1) := by decide +kernel
theorem dX6_layOut_34 : decode cX6_layOut 34 = .ok (.aload_n 0, 1) := by decide +kernel
theorem dX6_layOut_35 : decode cX6_layOut 35 = .ok (.invokevirtual 51, 3) := by decide +kernel
theorem dX6_layOut_38 : decode cX6_layOut 38 = .ok (.iconst 0, 1) := by decide +kernel
theorem dX6_layOut_39 : decode cX6_layOut 39 = .ok (.istore 6, 2) := by decide +kernel
theorem dX6_layOut_41 : decode cX6_layOut 41 = .ok (.iload 6, 2) := by decide +kernel
theorem dX6_layOut_43 : decode cX6_layOut 43 = .ok (.iload 5, 2) := by decide +kernel
theorem dX6_layOut_45 : decode cX6_layOut 45 = .ok (.if_icmp .ge 29, 3) := by decide +kernel
theorem dX6_layOut_48 : decode cX6_layOut 48 = .ok (.aload_n 0, 1) := by decide +kernel
theorem dX6_layOut_49 : decode cX6_layOut 49 = .ok (.iload 4, 2) := by decide +kernel
theorem dX6_layOut_51 : decode cX6_layOut 51 = .ok (.iload 6, 2) := by decide +kernel
theorem dX6_layOut_53 : decode cX6_layOut 53 = .ok (.iload_n 2, 1) := by decide +kernel
theorem dX6_layOut_54 : decode cX6_layOut 54 = .ok (.imul, 1) := by decide +kernel
theorem dX6_layOut_55 : decode cX6_layOut 55 = .ok (.iadd, 1) := by decide +kernel
theorem dX6_layOut_56 : decode cX6_layOut 56 = .ok (.iconst 0, 1) := by decide +kernel
theorem dX6_layOut_57 : decode cX6_layOut 57 = .ok (.aload_n 1, 1) := by decide +kernel
theorem dX6_layOut_58 : decode cX6_layOut 58 = .ok (.getfield 54, 3) := by decide +kernel
theorem dX6_layOut_61 : decode cX6_layOut 61 = .ok (.iconst 1, 1) := by decide +kernel
theorem dX6_layOut_62 : decode cX6_layOut 62 = .ok (.isub, 1) := by decide +kernel
theorem dX6_layOut_63 : decode cX6_layOut 63 = .ok (.iload_n 3, 1) := by decide +kernel
theorem dX6_layOut_64 : decode cX6_layOut 64 = .ok (.invokevirtual 57, 3) := by decide +kernel
theorem dX6_layOut_67 : decode cX6_layOut 67 = .ok (.pop, 1) := by decide +kernel
theorem dX6_layOut_68 : decode cX6_layOut 68 = .ok (.iinc 6 1, 3) := by decide +kernel
theorem dX6_layOut_71 : decode cX6_layOut 71 = .ok (.goto (-30), 3) := by decide +kernel
theorem dX6_layOut_74 : decode cX6_layOut 74 = .ok (.iconst 1, 1) := by decide +kernel
theorem dX6_layOut_75 : decode cX6_layOut 75 = .ok (.ireturn, 1) := by decide +kernel
set_option maxRecDepth 20000 in
theorem ggX6_photoTotal_X5_photos : GoodIn wsX6_photoTotal wsX5_photos := goodIn_r _ [7, 8, 9, 10, 11, 12, 13, 16, 17, 18, 19] (by decide +kernel) (by decide +kernel)
set_option maxRecDepth 20000 in
theorem gX6_photoTotal_X5_photos : GoodIn wsX6_photoTotal (wsV RX6 61 RX5 yX5_photos wsX5_photos) := goodIn_app (goodIn_of _ (by decide +kernel)) ggX6_photoTotal_X5_photos
theorem dX6_photoTotal_0 : decode cX6_photoTotal 0 = .ok (.iconst 0, 1) := by decide +kernel
theorem dX6_photoTotal_1 : decode cX6_photoTotal 1 = .ok (.istore_n 1, 1) := by decide +kernel
theorem dX6_photoTotal_2 : decode cX6_photoTotal 2 = .ok (.iconst 0, 1) := by decide +kernel
theorem dX6_photoTotal_3 : decode cX6_photoTotal 3 = .ok (.istore_n 2, 1) := by decide +kernel
theorem dX6_photoTotal_4 : decode cX6_photoTotal 4 = .ok (.iload_n 2, 1) := by decide +kernel
theorem dX6_photoTotal_5 : decode cX6_photoTotal 5 = .ok (.aload_n 0, 1) := by decide +kernel
theorem dX6_photoTotal_6 : decode cX6_photoTotal 6 = .ok (.getfield 18, 3) := by decide +kernel
theorem dX6_photoTotal_9 : decode cX6_photoTotal 9 = .ok (.if_icmp .ge 21, 3) := by decide +kernel
theorem dX6_photoTotal_12 : decode cX6_photoTotal 12 = .ok (.iload_n 1, 1) := by decide +kernel
theorem dX6_photoTotal_13 : decode cX6_photoTotal 13 = .ok (.aload_n 0, 1) := by decide +kernel
theorem dX6_photoTotal_14 : decode cX6_photoTotal 14 = .ok (.getfield 11, 3) := by decide +kernel
theorem dX6_photoTotal_17 : decode cX6_photoTotal 17 = .ok (.iload_n 2, 1) := by decide +kernel
theorem dX6_photoTotal_18 : decode cX6_photoTotal 18 = .ok (.aaload, 1) := by decide +kernel
theorem dX6_photoTotal_19 : decode cX6_photoTotal 19 = .ok (.invokevirtual 61, 3) := by decide +kernel
theorem dX6_photoTotal_22 : decode cX6_photoTotal 22 = .ok (.iadd, 1) := by decide +kernel
theorem dX6_photoTotal_23 : decode cX6_photoTotal 23 = .ok (.istore_n 1, 1) := by decide +kernel
theorem dX6_photoTotal_24 : decode cX6_photoTotal 24 = .ok (.iinc 2 1, 3) := by decide +kernel
theorem dX6_photoTotal_27 : decode cX6_photoTotal 27 = .ok (.goto (-23), 3) := by decide +kernel
theorem dX6_photoTotal_30 : decode cX6_photoTotal 30 = .ok (.iload_n 1, 1) := by decide +kernel
theorem dX6_photoTotal_31 : decode cX6_photoTotal 31 = .ok (.ireturn, 1) := by decide +kernel
set_option maxRecDepth 20000 in
theorem ggX6_views_X5_photos : GoodIn wsX6_views wsX5_photos := goodIn_r _ [8, 9, 10, 11, 12, 13, 14, 51, 52, 53, 54] (by decide +kernel) (by decide +kernel)
set_option maxRecDepth 20000 in
theorem gX6_views_X5_photos : GoodIn wsX6_views (wsV RX6 61 RX5 yX5_photos wsX5_photos) := goodIn_app (goodIn_of _ (by decide +kernel)) ggX6_views_X5_photos
set_option maxRecDepth 20000 in
theorem ggX6_views_X5_columnOf : GoodIn wsX6_views wsX5_columnOf := goodIn_r _ [18, 10, 11, 51, 52, 53, 54] (by decide +kernel) (by decide +kernel)
set_option maxRecDepth 20000 in
theorem gX6_views_X5_columnOf : GoodIn wsX6_views (wsV RX6 65 RX5 yX5_columnOf wsX5_columnOf) := goodIn_app (goodIn_of _ (by decide +kernel)) ggX6_views_X5_columnOf
set_option maxRecDepth 20000 in
theorem ggX6_views_X1_sees : GoodIn wsX6_views wsX1_sees := goodIn_r _ [23, 24, 25, 26, 27, 28, 29, 30, 31, 32, 33, 34, 35, 36, 37, 38, 39, 40, 22, 41, 42, 43, 44, 45, 46, 47, 48, 55, 56, 57, 58, 59, 60, 61] (by decide +kernel) (by decide +kernel)
set_option maxRecDepth 20000 in
theorem gX6_views_X1_sees : GoodIn wsX6_views (wsV RX6 69 RX1 yX1_sees wsX1_sees) := goodIn_app (goodIn_of _ (by decide +kernel)) ggX6_views_X1_sees
theorem dX6_views_0 : decode cX6_views 0 = .ok (.iconst 0, 1) := by decide +kernel
theorem dX6_views_1 : decode cX6_views 1 = .ok (.istore 6, 2) := by decide +kernel
theorem dX6_views_3 : decode cX6_views 3 = .ok (.iconst 0, 1) := by decide +kernel
theorem dX6_views_4 : decode cX6_views 4 = .ok (.istore 7, 2) := by decide +kernel
theorem dX6_views_6 : decode cX6_views 6 = .ok (.iload 7, 2) := by decide +kernel
theorem dX6_views_8 : decode cX6_views 8 = .ok (.aload_n 0, 1) := by decide +kernel
theorem dX6_views_9 : decode cX6_views 9 = .ok (.getfield 18, 3) := by decide +kernel
theorem dX6_views_12 : decode cX6_views 12 = .ok (.if_icmp .ge 74, 3) := by decide +kernel
theorem dX6_views_15 : decode cX6_views 15 = .ok (.aload_n 0, 1) := by decide +kernel
theorem dX6_views_16 : decode cX6_views 16 = .ok (.getfield 11, 3) := by decide +kernel
theorem dX6_views_19 : decode cX6_views 19 = .ok (.iload 7, 2) := by decide +kernel
theorem dX6_views_21 : decode cX6_views 21 = .ok (.aaload, 1) := by decide +kernel
theorem dX6_views_22 : decode cX6_views 22 = .ok (.astore 8, 2) := by decide +kernel
theorem dX6_views_24 : decode cX6_views 24 = .ok (.aload 8, 2) := by decide +kernel
theorem dX6_views_26 : decode cX6_views 26 = .ok (.invokevirtual 61, 3) := by decide +kernel
theorem dX6_views_29 : decode cX6_views 29 = .ok (.istore 9, 2) := by decide +kernel
theorem dX6_views_31 : decode cX6_views 31 = .ok (.iconst 0, 1) := by decide +kernel
theorem dX6_views_32 : decode cX6_views 32 = .ok (.istore 10, 2) := by decide +kernel
theorem dX6_views_34 : decode cX6_views 34 = .ok (.iload 10, 2) := by decide +kernel
theorem dX6_views_36 : decode cX6_views 36 = .ok (.iload 9, 2) := by decide +kernel
theorem dX6_views_38 : decode cX6_views 38 = .ok (.if_icmp .ge 42, 3) := by decide +kernel
theorem dX6_views_41 : decode cX6_views 41 = .ok (.iload 6, 2) := by decide +kernel
theorem dX6_views_43 : decode cX6_views 43 = .ok (.iload 5, 2) := by decide +kernel
theorem dX6_views_45 : decode cX6_views 45 = .ok (.if_icmp .ge 35, 3) := by decide +kernel
theorem dX6_views_48 : decode cX6_views 48 = .ok (.aload_n 2, 1) := by decide +kernel
theorem dX6_views_49 : decode cX6_views 49 = .ok (.aload_n 1, 1) := by decide +kernel
theorem dX6_views_50 : decode cX6_views 50 = .ok (.aload 8, 2) := by decide +kernel
theorem dX6_views_52 : decode cX6_views 52 = .ok (.getfield 30, 3) := by decide +kernel
theorem dX6_views_55 : decode cX6_views 55 = .ok (.aload 8, 2) := by decide +kernel
theorem dX6_views_57 : decode cX6_views 57 = .ok (.iload 10, 2) := by decide +kernel
theorem dX6_views_59 : decode cX6_views 59 = .ok (.invokevirtual 65, 3) := by decide +kernel
theorem dX6_views_62 : decode cX6_views 62 = .ok (.iload_n 3, 1) := by decide +kernel
theorem dX6_views_63 : decode cX6_views 63 = .ok (.iload 4, 2) := by decide +kernel
theorem dX6_views_65 : decode cX6_views 65 = .ok (.invokevirtual 69, 3) := by decide +kernel
theorem dX6_views_68 : decode cX6_views 68 = .ok (.ifCond .eq 6, 3) := by decide +kernel
theorem dX6_views_71 : decode cX6_views 71 = .ok (.iinc 6 1, 3) := by decide +kernel
theorem dX6_views_74 : decode cX6_views 74 = .ok (.iinc 10 1, 3) := by decide +kernel
theorem dX6_views_77 : decode cX6_views 77 = .ok (.goto (-43), 3) := by decide +kernel
theorem dX6_views_80 : decode cX6_views 80 = .ok (.iinc 7 1, 3) := by decide +kernel
theorem dX6_views_83 : decode cX6_views 83 = .ok (.goto (-77), 3) := by decide +kernel
theorem dX6_views_86 : decode cX6_views 86 = .ok (.iload 6, 2) := by decide +kernel
theorem dX6_views_88 : decode cX6_views 88 = .ok (.ireturn, 1) := by decide +kernel
set_option maxRecDepth 20000 in
theorem ggX6_leavesGap_X6_views : GoodIn wsX6_leavesGap wsX6_views := goodIn_r _ [7, 8, 9, 10, 11, 12, 13, 14, 15, 16, 17, 18, 19, 20, 21, 22, 23, 24, 25, 26, 27, 28, 29, 30, 31, 32, 33, 34, 35, 36, 37, 38, 39, 40, 41, 42, 43, 44, 45, 46, 47, 48, 49, 50, 51, 52, 53, 54, 55, 59, 60, 61, 62, 63, 64, 65, 66, 67, 68, 56, 57, 58] (by decide +kernel) (by decide +kernel)
set_option maxRecDepth 20000 in
theorem gX6_leavesGap_X6_views : GoodIn wsX6_leavesGap (wsV RX6 75 RX6 yX6_views wsX6_views) := goodIn_app (goodIn_of _ (by decide +kernel)) ggX6_leavesGap_X6_views
theorem dX6_leavesGap_0 : decode cX6_leavesGap 0 = .ok (.iconst 0, 1) := by decide +kernel
theorem dX6_leavesGap_1 : decode cX6_leavesGap 1 = .ok (.istore 4, 2) := by decide +kernel
theorem dX6_leavesGap_3 : decode cX6_leavesGap 3 = .ok (.iload 4, 2) := by decide +kernel
theorem dX6_leavesGap_5 : decode cX6_leavesGap 5 = .ok (.aload_n 1, 1) := by decide +kernel
theorem dX6_leavesGap_6 : decode cX6_leavesGap 6 = .ok (.getfield 42, 3) := by decide +kernel
theorem dX6_leavesGap_9 : decode cX6_leavesGap 9 = .ok (.if_icmp .ge 44, 3) := by decide +kernel
theorem dX6_leavesGap_12 : decode cX6_leavesGap 12 = .ok (.iconst 0, 1) := by decide +kernel
theorem dX6_leavesGap_13 : decode cX6_leavesGap 13 = .ok (.istore 5, 2) := by decide +kernel
theorem dX6_leavesGap_15 : decode cX6_leavesGap 15 = .ok (.iload 5, 2) := by decide +kernel
theorem dX6_leavesGap_17 : decode cX6_leavesGap 17 = .ok (.aload_n 1, 1) := by decide +kernel
theorem dX6_leavesGap_18 : decode cX6_leavesGap 18 = .ok (.getfield 54, 3) := by decide +kernel
theorem dX6_leavesGap_21 : decode cX6_leavesGap 21 = .ok (.if_icmp .ge 26, 3) := by decide +kernel
theorem dX6_leavesGap_24 : decode cX6_leavesGap 24 = .ok (.aload_n 0, 1) := by decide +kernel
theorem dX6_leavesGap_25 : decode cX6_leavesGap 25 = .ok (.aload_n 1, 1) := by decide +kernel
theorem dX6_leavesGap_26 : decode cX6_leavesGap 26 = .ok (.aload_n 2, 1) := by decide +kernel
theorem dX6_leavesGap_27 : decode cX6_leavesGap 27 = .ok (.iload 4, 2) := by decide +kernel
theorem dX6_leavesGap_29 : decode cX6_leavesGap 29 = .ok (.iload 5, 2) := by decide +kernel
theorem dX6_leavesGap_31 : decode cX6_leavesGap 31 = .ok (.iload_n 3, 1) := by decide +kernel
theorem dX6_leavesGap_32 : decode cX6_leavesGap 32 = .ok (.invokevirtual 75, 3) := by decide +kernel
theorem dX6_leavesGap_35 : decode cX6_leavesGap 35 = .ok (.iload_n 3, 1) := by decide +kernel
theorem dX6_leavesGap_36 : decode cX6_leavesGap 36 = .ok (.if_icmp .ge 5, 3) := by decide +kernel
theorem dX6_leavesGap_39 : decode cX6_leavesGap 39 = .ok (.iconst 1, 1) := by decide +kernel
theorem dX6_leavesGap_40 : decode cX6_leavesGap 40 = .ok (.ireturn, 1) := by decide +kernel
theorem dX6_leavesGap_41 : decode cX6_leavesGap 41 = .ok (.iinc 5 1, 3) := by decide +kernel
theorem dX6_leavesGap_44 : decode cX6_leavesGap 44 = .ok (.goto (-29), 3) := by decide +kernel
theorem dX6_leavesGap_47 : decode cX6_leavesGap 47 = .ok (.iinc 4 1, 3) := by decide +kernel
theorem dX6_leavesGap_50 : decode cX6_leavesGap 50 = .ok (.goto (-47), 3) := by decide +kernel
theorem dX6_leavesGap_53 : decode cX6_leavesGap 53 = .ok (.iconst 0, 1) := by decide +kernel
theorem dX6_leavesGap_54 : decode cX6_leavesGap 54 = .ok (.ireturn, 1) := by decide +kernel
theorem dX7_init_0 : decode cX7_init 0 = .ok (.aload_n 0, 1) := by decide +kernel
theorem dX7_init_1 : decode cX7_init 1 = .ok (.invokespecial 3, 3) := by decide +kernel
theorem dX7_init_4 : decode cX7_init 4 = .ok (.aload_n 0, 1) := by decide +kernel
theorem dX7_init_5 : decode cX7_init 5 = .ok (.bipush 6, 2) := by decide +kernel
theorem dX7_init_7 : decode cX7_init 7 = .ok (.putfield 9, 3) := by decide +kernel
theorem dX7_init_10 : decode cX7_init 10 = .ok (.aload_n 0, 1) := by decide +kernel
theorem dX7_init_11 : decode cX7_init 11 = .ok (.bipush 10, 2) := by decide +kernel
theorem dX7_init_13 : decode cX7_init 13 = .ok (.putfield 15, 3) := by decide +kernel
theorem dX7_init_16 : decode cX7_init 16 = .ok (.aload_n 0, 1) := by decide +kernel
theorem dX7_init_17 : decode cX7_init 17 = .ok (.sipush 160, 3) := by decide +kernel
theorem dX7_init_20 : decode cX7_init 20 = .ok (.newarray .int, 2) := by decide +kernel
theorem dX7_init_22 : decode cX7_init 22 = .ok (.putfield 18, 3) := by decide +kernel
theorem dX7_init_25 : decode cX7_init 25 = .ok (.return_, 1) := by decide +kernel
theorem dX7_contains_0 : decode cX7_contains 0 = .ok (.iload_n 1, 1) := by decide +kernel
theorem dX7_contains_1 : decode cX7_contains 1 = .ok (.ifCond .lt 27, 3) := by decide +kernel
theorem dX7_contains_4 : decode cX7_contains 4 = .ok (.iload_n 1, 1) := by decide +kernel
theorem dX7_contains_5 : decode cX7_contains 5 = .ok (.aload_n 0, 1) := by decide +kernel
theorem dX7_contains_6 : decode cX7_contains 6 = .ok (.getfield 9, 3) := by decide +kernel
theorem dX7_contains_9 : decode cX7_contains 9 = .ok (.if_icmp .ge 19, 3) := by decide +kernel
theorem dX7_contains_12 : decode cX7_contains 12 = .ok (.iload_n 2, 1) := by decide +kernel
theorem dX7_contains_13 : decode cX7_contains 13 = .ok (.ifCond .lt 15, 3) := by decide +kernel
theorem dX7_contains_16 : decode cX7_contains 16 = .ok (.iload_n 2, 1) := by decide +kernel
theorem dX7_contains_17 : decode cX7_contains 17 = .ok (.aload_n 0, 1) := by decide +kernel
theorem dX7_contains_18 : decode cX7_contains 18 = .ok (.getfield 15, 3) := by decide +kernel
theorem dX7_contains_21 : decode cX7_contains 21 = .ok (.if_icmp .ge 7, 3) := by decide +kernel
theorem dX7_contains_24 : decode cX7_contains 24 = .ok (.iconst 1, 1) := by decide +kernel
theorem dX7_contains_25 : decode cX7_contains 25 = .ok (.goto 4, 3) := by decide +kernel
theorem dX7_contains_28 : decode cX7_contains 28 = .ok (.iconst 0, 1) := by decide +kernel
theorem dX7_contains_29 : decode cX7_contains 29 = .ok (.ireturn, 1) := by decide +kernel
theorem dX7_flatten_0 : decode cX7_flatten 0 = .ok (.aload_n 0, 1) := by decide +kernel
theorem dX7_flatten_1 : decode cX7_flatten 1 = .ok (.iload_n 1, 1) := by decide +kernel
theorem dX7_flatten_2 : decode cX7_flatten 2 = .ok (.putfield 9, 3) := by decide +kernel
theorem dX7_flatten_5 : decode cX7_flatten 5 = .ok (.aload_n 0, 1) := by decide +kernel
theorem dX7_flatten_6 : decode cX7_flatten 6 = .ok (.iload_n 2, 1) := by decide +kernel
theorem dX7_flatten_7 : decode cX7_flatten 7 = .ok (.putfield 15, 3) := by decide +kernel
theorem dX7_flatten_10 : decode cX7_flatten 10 = .ok (.iconst 0, 1) := by decide +kernel
theorem dX7_flatten_11 : decode cX7_flatten 11 = .ok (.istore_n 3, 1) := by decide +kernel
theorem dX7_flatten_12 : decode cX7_flatten 12 = .ok (.iload_n 3, 1) := by decide +kernel
theorem dX7_flatten_13 : decode cX7_flatten 13 = .ok (.aload_n 0, 1) := by decide +kernel
theorem dX7_flatten_14 : decode cX7_flatten 14 = .ok (.getfield 18, 3) := by decide +kernel
theorem dX7_flatten_17 : decode cX7_flatten 17 = .ok (.arraylength, 1) := by decide +kernel
theorem dX7_flatten_18 : decode cX7_flatten 18 = .ok (.if_icmp .ge 16, 3) := by decide +kernel
theorem dX7_flatten_21 : decode cX7_flatten 21 = .ok (.aload_n 0, 1) := by decide +kernel
theorem dX7_flatten_22 : decode cX7_flatten 22 = .ok (.getfield 18, 3) := by decide +kernel
theorem dX7_flatten_25 : decode cX7_flatten 25 = .ok (.iload_n 3, 1) := by decide +kernel
theorem dX7_flatten_26 : decode cX7_flatten 26 = .ok (.iconst 0, 1) := by decide +kernel
theorem dX7_flatten_27 : decode cX7_flatten 27 = .ok (.iastore, 1) := by decide +kernel
theorem dX7_flatten_28 : decode cX7_flatten 28 = .ok (.iinc 3 1, 3) := by decide +kernel
theorem dX7_flatten_31 : decode cX7_flatten 31 = .ok (.goto (-19), 3) := by decide +kernel
theorem dX7_flatten_34 : decode cX7_flatten 34 = .ok (.return_, 1) := by decide +kernel
theorem dX7_heightAt_0 : decode cX7_heightAt 0 = .ok (.iload_n 1, 1) := by decide +kernel
theorem dX7_heightAt_1 : decode cX7_heightAt 1 = .ok (.bipush 16, 2) := by decide +kernel
theorem dX7_heightAt_3 : decode cX7_heightAt 3 = .ok (.imul, 1) := by decide +kernel
theorem dX7_heightAt_4 : decode cX7_heightAt 4 = .ok (.iload_n 2, 1) := by decide +kernel
theorem dX7_heightAt_5 : decode cX7_heightAt 5 = .ok (.iadd, 1) := by decide +kernel
theorem dX7_heightAt_6 : decode cX7_heightAt 6 = .ok (.istore_n 3, 1) := by decide +kernel
theorem dX7_heightAt_7 : decode cX7_heightAt 7 = .ok (.iload_n 3, 1) := by decide +kernel
theorem dX7_heightAt_8 : decode cX7_heightAt 8 = .ok (.ifCond .lt 21, 3) := by decide +kernel
theorem dX7_heightAt_11 : decode cX7_heightAt 11 = .ok (.iload_n 3, 1) := by decide +kernel
theorem dX7_heightAt_12 : decode cX7_heightAt 12 = .ok (.aload_n 0, 1) := by decide +kernel
theorem dX7_heightAt_13 : decode cX7_heightAt 13 = .ok (.getfield 18, 3) := by decide +kernel
theorem dX7_heightAt_16 : decode cX7_heightAt 16 = .ok (.arraylength, 1) := by decide +kernel
theorem dX7_heightAt_17 : decode cX7_heightAt 17 = .ok (.if_icmp .ge 12, 3) := by decide +kernel
theorem dX7_heightAt_20 : decode cX7_heightAt 20 = .ok (.aload_n 0, 1) := by decide +kernel
theorem dX7_heightAt_21 : decode cX7_heightAt 21 = .ok (.getfield 18, 3) := by decide +kernel
theorem dX7_heightAt_24 : decode cX7_heightAt 24 = .ok (.iload_n 3, 1) := by decide +kernel
theorem dX7_heightAt_25 : decode cX7_heightAt 25 = .ok (.iaload, 1) := by decide +kernel
theorem dX7_heightAt_26 : decode cX7_heightAt 26 = .ok (.goto 4, 3) := by decide +kernel
theorem dX7_heightAt_29 : decode cX7_heightAt 29 = .ok (.iconst 0, 1) := by decide +kernel
theorem dX7_heightAt_30 : decode cX7_heightAt 30 = .ok (.ireturn, 1) := by decide +kernel
theorem dX7_put_0 : decode cX7_put 0 = .ok (.iload_n 1, 1) := by decide +kernel
theorem dX7_put_1 : decode cX7_put 1 = .ok (.bipush 16, 2) := by decide +kernel
theorem dX7_put_3 : decode cX7_put 3 = .ok (.imul, 1) := by decide +kernel
theorem dX7_put_4 : decode cX7_put 4 = .ok (.iload_n 2, 1) := by decide +kernel
theorem dX7_put_5 : decode cX7_put 5 = .ok (.iadd, 1) := by decide +kernel
theorem dX7_put_6 : decode cX7_put 6 = .ok (.istore 4, 2) := by decide +kernel
theorem dX7_put_8 : decode cX7_put 8 = .ok (.iload 4, 2) := by decide +kernel
theorem dX7_put_10 : decode cX7_put 10 = .ok (.ifCond .lt 21, 3) := by decide +kernel
theorem dX7_put_13 : decode cX7_put 13 = .ok (.iload 4, 2) := by decide +kernel
theorem dX7_put_15 : decode cX7_put 15 = .ok (.aload_n 0, 1) := by decide +kernel
theorem dX7_put_16 : decode cX7_put 16 = .ok (.getfield 18, 3) := by decide +kernel
theorem dX7_put_19 : decode cX7_put 19 = .ok (.arraylength, 1) := by decide +kernel
theorem dX7_put_20 : decode cX7_put 20 = .ok (.if_icmp .ge 11, 3) := by decide +kernel
theorem dX7_put_23 : decode cX7_put 23 = .ok (.aload_n 0, 1) := by decide +kernel
theorem dX7_put_24 : decode cX7_put 24 = .ok (.getfield 18, 3) := by decide +kernel
theorem dX7_put_27 : decode cX7_put 27 = .ok (.iload 4, 2) := by decide +kernel
theorem dX7_put_29 : decode cX7_put 29 = .ok (.iload_n 3, 1) := by decide +kernel
theorem dX7_put_30 : decode cX7_put 30 = .ok (.iastore, 1) := by decide +kernel
theorem dX7_put_31 : decode cX7_put 31 = .ok (.return_, 1) := by decide +kernel
set_option maxRecDepth 20000 in
theorem ggX7_raise_X8_quotient : GoodIn wsX7_raise wsX8_quotient := goodIn_r _ [15] (by decide +kernel) (by decide +kernel)
set_option maxRecDepth 20000 in
theorem gX7_raise_X8_quotient_n32 : GoodIn wsX7_raise (wsX8_quotient) := ggX7_raise_X8_quotient
set_option maxRecDepth 20000 in
theorem ggX7_raise_X7_heightAt : GoodIn wsX7_raise wsX7_heightAt := goodIn_r _ [20, 21, 26, 27, 28] (by decide +kernel) (by decide +kernel)
set_option maxRecDepth 20000 in
theorem gX7_raise_X7_heightAt : GoodIn wsX7_raise (wsV RX7 35 RX7 yX7_heightAt wsX7_heightAt) := goodIn_app (goodIn_of _ (by decide +kernel)) ggX7_raise_X7_heightAt
set_option maxRecDepth 20000 in
theorem ggX7_raise_X7_put : GoodIn wsX7_raise wsX7_put := goodIn_r _ [25, 21, 26, 27, 28] (by decide +kernel) (by decide +kernel)
set_option maxRecDepth 20000 in
theorem gX7_raise_X7_put : GoodIn wsX7_raise (wsV RX7 41 RX7 yX7_put wsX7_put) := goodIn_app (goodIn_of _ (by decide +kernel)) ggX7_raise_X7_put
theorem dX7_raise_0 : decode cX7_raise 0 = .ok (.iconst 0, 1) := by decide +kernel
theorem dX7_raise_1 : decode cX7_raise 1 = .ok (.istore 5, 2) := by decide +kernel
theorem dX7_raise_3 : decode cX7_raise 3 = .ok (.iconst 0, 1) := by decide +kernel
theorem dX7_raise_4 : decode cX7_raise 4 = .ok (.istore 6, 2) := by decide +kernel
theorem dX7_raise_6 : decode cX7_raise 6 = .ok (.iload 6, 2) := by decide +kernel
theorem dX7_raise_8 : decode cX7_raise 8 = .ok (.aload_n 0, 1) := by decide +kernel
theorem dX7_raise_9 : decode cX7_raise 9 = .ok (.getfield 9, 3) := by decide +kernel
theorem dX7_raise_12 : decode cX7_raise 12 = .ok (.if_icmp .ge 119, 3) := by decide +kernel
theorem dX7_raise_15 : decode cX7_raise 15 = .ok (.iconst 0, 1) := by decide +kernel
theorem dX7_raise_16 : decode cX7_raise 16 = .ok (.istore 7, 2) := by decide +kernel
theorem dX7_raise_18 : decode cX7_raise 18 = .ok (.iload 7, 2) := by decide +kernel
theorem dX7_raise_20 : decode cX7_raise 20 = .ok (.aload_n 0, 1) := by decide +kernel
theorem dX7_raise_21 : decode cX7_raise 21 = .ok (.getfield 15, 3) := by decide +kernel
theorem dX7_raise_24 : decode cX7_raise 24 = .ok (.if_icmp .ge 101, 3) := by decide +kernel
theorem dX7_raise_27 : decode cX7_raise 27 = .ok (.iload 6, 2) := by decide +kernel
theorem dX7_raise_29 : decode cX7_raise 29 = .ok (.iload_n 1, 1) := by decide +kernel
theorem dX7_raise_30 : decode cX7_raise 30 = .ok (.isub, 1) := by decide +kernel
theorem dX7_raise_31 : decode cX7_raise 31 = .ok (.invokestatic 22, 3) := by decide +kernel
theorem dX7_raise_34 : decode cX7_raise 34 = .ok (.iload 7, 2) := by decide +kernel
theorem dX7_raise_36 : decode cX7_raise 36 = .ok (.iload_n 2, 1) := by decide +kernel
theorem dX7_raise_37 : decode cX7_raise 37 = .ok (.isub, 1) := by decide +kernel
theorem dX7_raise_38 : decode cX7_raise 38 = .ok (.invokestatic 22, 3) := by decide +kernel
theorem dX7_raise_41 : decode cX7_raise 41 = .ok (.invokestatic 28, 3) := by decide +kernel
theorem dX7_raise_44 : decode cX7_raise 44 = .ok (.istore 8, 2) := by decide +kernel
theorem dX7_raise_46 : decode cX7_raise 46 = .ok (.iload 8, 2) := by decide +kernel
theorem dX7_raise_48 : decode cX7_raise 48 = .ok (.iload_n 3, 1) := by decide +kernel
theorem dX7_raise_49 : decode cX7_raise 49 = .ok (.if_icmp .gt 70, 3) := by decide +kernel
theorem dX7_raise_52 : decode cX7_raise 52 = .ok (.iload 4, 2) := by decide +kernel
theorem dX7_raise_54 : decode cX7_raise 54 = .ok (.iload_n 3, 1) := by decide +kernel
theorem dX7_raise_55 : decode cX7_raise 55 = .ok (.iconst 1, 1) := by decide +kernel
theorem dX7_raise_56 : decode cX7_raise 56 = .ok (.iadd, 1) := by decide +kernel
theorem dX7_raise_57 : decode cX7_raise 57 = .ok (.iload 8, 2) := by decide +kernel
theorem dX7_raise_59 : decode cX7_raise 59 = .ok (.isub, 1) := by decide +kernel
theorem dX7_raise_60 : decode cX7_raise 60 = .ok (.imul, 1) := by decide +kernel
theorem dX7_raise_61 : decode cX7_raise 61 = .ok (.iload_n 3, 1) := by decide +kernel
theorem dX7_raise_62 : decode cX7_raise 62 = .ok (.iconst 1, 1) := by decide +kernel
theorem dX7_raise_63 : decode cX7_raise 63 = .ok (.iadd, 1) := by decide +kernel
theorem dX7_raise_64 : decode cX7_raise 64 = .ok (.invokestatic 32, 3) := by decide +kernel
theorem dX7_raise_67 : decode cX7_raise 67 = .ok (.istore 9, 2) := by decide +kernel
theorem dX7_raise_69 : decode cX7_raise 69 = .ok (.aload_n 0, 1) := by decide +kernel
theorem dX7_raise_70 : decode cX7_raise 70 = .ok (.iload 6, 2) := by decide +kernel
theorem dX7_raise_72 : decode cX7_raise 72 = .ok (.iload 7, 2) := by decide +kernel
theorem dX7_raise_74 : decode cX7_raise 74 = .ok (.invokevirtual 35, 3) := by decide +kernel
theorem dX7_raise_77 : decode cX7_raise 77 = .ok (.istore 10, 2) := by decide +kernel
theorem dX7_raise_79 : decode cX7_raise 79 = .ok (.sipush 999, 3) := by decide +kernel
theorem dX7_raise_82 : decode cX7_raise 82 = .ok (.iload 10, 2) := by decide +kernel
theorem dX7_raise_84 : decode cX7_raise 84 = .ok (.iload 9, 2) := by decide +kernel
theorem dX7_raise_86 : decode cX7_raise 86 = .ok (.iadd, 1) := by decide +kernel
theorem dX7_raise_87 : decode cX7_raise 87 = .ok (.invokestatic 38, 3) := by decide +kernel
theorem dX7_raise_90 : decode cX7_raise 90 = .ok (.istore 11, 2) := by decide +kernel
theorem dX7_raise_92 : decode cX7_raise 92 = .ok (.aload_n 0, 1) := by decide +kernel
theorem dX7_raise_93 : decode cX7_raise 93 = .ok (.iload 6, 2) := by decide +kernel
theorem dX7_raise_95 : decode cX7_raise 95 = .ok (.iload 7, 2) := by decide +kernel
theorem dX7_raise_97 : decode cX7_raise 97 = .ok (.iload 11, 2) := by decide +kernel
theorem dX7_raise_99 : decode cX7_raise 99 = .ok (.invokevirtual 41, 3) := by decide +kernel
theorem dX7_raise_102 : decode cX7_raise 102 = .ok (.iload 5, 2) := by decide +kernel
theorem dX7_raise_104 : decode cX7_raise 104 = .ok (.iload 11, 2) := by decide +kernel
theorem dX7_raise_106 : decode cX7_raise 106 = .ok (.iload 10, 2) := by decide +kernel
theorem dX7_raise_108 : decode cX7_raise 108 = .ok (.if_icmp .eq 7, 3) := by decide +kernel
theorem dX7_raise_111 : decode cX7_raise 111 = .ok (.iconst 1, 1) := by decide +kernel
theorem dX7_raise_112 : decode cX7_raise 112 = .ok (.goto 4, 3) := by decide +kernel
theorem dX7_raise_115 : decode cX7_raise 115 = .ok (.iconst 0, 1) := by decide +kernel
theorem dX7_raise_116 : decode cX7_raise 116 = .ok (.iadd, 1) := by decide +kernel
theorem dX7_raise_117 : decode cX7_raise 117 = .ok (.istore 5, 2) := by decide +kernel
theorem dX7_raise_119 : decode cX7_raise 119 = .ok (.iinc 7 1, 3) := by decide +kernel
theorem dX7_raise_122 : decode cX7_raise 122 = .ok (.goto (-104), 3) := by decide +kernel
theorem dX7_raise_125 : decode cX7_raise 125 = .ok (.iinc 6 1, 3) := by decide +kernel
theorem dX7_raise_128 : decode cX7_raise 128 = .ok (.goto (-122), 3) := by decide +kernel
theorem dX7_raise_131 : decode cX7_raise 131 = .ok (.iload 5, 2) := by decide +kernel
theorem dX7_raise_133 : decode cX7_raise 133 = .ok (.ireturn, 1) := by decide +kernel
set_option maxRecDepth 20000 in
theorem ggX8_init_X7_init : GoodIn wsX8_init wsX7_init := goodIn_r _ [34, 35, 2, 3, 36, 37, 38, 39, 81, 82, 83] (by decide +kernel) (by decide +kernel)
set_option maxRecDepth 20000 in
theorem gX8_init_X7_init : GoodIn wsX8_init (wsX7_init) := ggX8_init_X7_init
set_option maxRecDepth 20000 in
theorem ggX8_init_X1_init : GoodIn wsX8_init wsX1_init := goodIn_r _ [42, 43, 2, 3, 44, 45, 46, 47, 91, 92, 93, 94] (by decide +kernel) (by decide +kernel)
set_option maxRecDepth 20000 in
theorem gX8_init_X1_init : GoodIn wsX8_init (wsX1_init) := ggX8_init_X1_init
set_option maxRecDepth 20000 in
theorem ggX8_init_X0_init : GoodIn wsX8_init wsX0_init := goodIn_r _ [50, 51, 2, 3, 52, 53, 54, 95, 96, 97] (by decide +kernel) (by decide +kernel)
set_option maxRecDepth 20000 in
theorem gX8_init_X0_init : GoodIn wsX8_init (wsX0_init) := ggX8_init_X0_init
set_option maxRecDepth 20000 in
theorem ggX8_init_X6_init : GoodIn wsX8_init wsX6_init := goodIn_r _ [57, 58, 2, 3, 59, 60, 61, 62, 63, 64, 65, 98, 99, 110, 111, 112, 113] (by decide +kernel) (by decide +kernel)
set_option maxRecDepth 20000 in
theorem gX8_init_X6_init : GoodIn wsX8_init (wsX6_init) := ggX8_init_X6_init
set_option maxRecDepth 20000 in
theorem ggX8_init_X2_init : GoodIn wsX8_init wsX2_init := goodIn_r _ [67, 68, 2, 3] (by decide +kernel) (by decide +kernel)
set_option maxRecDepth 20000 in
theorem gX8_init_X2_init_n39 : GoodIn wsX8_init (wsX2_init) := ggX8_init_X2_init
set_option maxRecDepth 20000 in
theorem ggX8_init_X3_init : GoodIn wsX8_init wsX3_init := goodIn_r _ [71, 72, 2, 3, 73, 17, 18, 74, 75, 56, 57, 58, 59, 60, 61, 62, 63, 64, 65, 98, 99, 103, 104, 105, 106, 110, 111, 112, 113] (by decide +kernel) (by decide +kernel)
set_option maxRecDepth 20000 in
theorem gX8_init_X3_init : GoodIn wsX8_init (wsX3_init) := ggX8_init_X3_init
set_option maxRecDepth 20000 in
theorem ggX8_init_X4_init : GoodIn wsX8_init wsX4_init := goodIn_r _ [78, 79, 2, 3, 38, 80, 107, 108, 109] (by decide +kernel) (by decide +kernel)
set_option maxRecDepth 20000 in
theorem gX8_init_X4_init : GoodIn wsX8_init (wsX4_init) := ggX8_init_X4_init
end
section
theorem dX8_init_0 : decode cX8_init 0 = .ok (.aload_n 0, 1) := by decide +kernel
theorem dX8_init_1 : decode cX8_init 1 = .ok (.invokespecial 1, 3) := by decide +kernel
theorem dX8_init_4 : decode cX8_init 4 = .ok (.aload_n 0, 1) := by decide +kernel
theorem dX8_init_5 : decode cX8_init 5 = .ok (.new 7, 3) := by decide +kernel
theorem dX8_init_8 : decode cX8_init 8 = .ok (.dup, 1) := by decide +kernel
theorem dX8_init_9 : decode cX8_init 9 = .ok (.invokespecial 9, 3) := by decide +kernel
theorem dX8_init_12 : decode cX8_init 12 = .ok (.putfield 10, 3) := by decide +kernel
theorem dX8_init_15 : decode cX8_init 15 = .ok (.aload_n 0, 1) := by decide +kernel
theorem dX8_init_16 : decode cX8_init 16 = .ok (.new 16, 3) := by decide +kernel
theorem dX8_init_19 : decode cX8_init 19 = .ok (.dup, 1) := by decide +kernel
theorem dX8_init_20 : decode cX8_init 20 = .ok (.invokespecial 18, 3) := by decide +kernel
theorem dX8_init_23 : decode cX8_init 23 = .ok (.putfield 19, 3) := by decide +kernel
theorem dX8_init_26 : decode cX8_init 26 = .ok (.aload_n 0, 1) := by decide +kernel
theorem dX8_init_27 : decode cX8_init 27 = .ok (.new 23, 3) := by decide +kernel
theorem dX8_init_30 : decode cX8_init 30 = .ok (.dup, 1) := by decide +kernel
theorem dX8_init_31 : decode cX8_init 31 = .ok (.invokespecial 25, 3) := by decide +kernel
theorem dX8_init_34 : decode cX8_init 34 = .ok (.putfield 26, 3) := by decide +kernel
theorem dX8_init_37 : decode cX8_init 37 = .ok (.aload_n 0, 1) := by decide +kernel
theorem dX8_init_38 : decode cX8_init 38 = .ok (.new 30, 3) := by decide +kernel
theorem dX8_init_41 : decode cX8_init 41 = .ok (.dup, 1) := by decide +kernel
theorem dX8_init_42 : decode cX8_init 42 = .ok (.invokespecial 32, 3) := by decide +kernel
theorem dX8_init_45 : decode cX8_init 45 = .ok (.putfield 33, 3) := by decide +kernel
theorem dX8_init_48 : decode cX8_init 48 = .ok (.aload_n 0, 1) := by decide +kernel
theorem dX8_init_49 : decode cX8_init 49 = .ok (.new 37, 3) := by decide +kernel
theorem dX8_init_52 : decode cX8_init 52 = .ok (.dup, 1) := by decide +kernel
theorem dX8_init_53 : decode cX8_init 53 = .ok (.invokespecial 39, 3) := by decide +kernel
theorem dX8_init_56 : decode cX8_init 56 = .ok (.putfield 40, 3) := by decide +kernel
theorem dX8_init_59 : decode cX8_init 59 = .ok (.aload_n 0, 1) := by decide +kernel
theorem dX8_init_60 : decode cX8_init 60 = .ok (.new 44, 3) := by decide +kernel
theorem dX8_init_63 : decode cX8_init 63 = .ok (.dup, 1) := by decide +kernel
theorem dX8_init_64 : decode cX8_init 64 = .ok (.invokespecial 46, 3) := by decide +kernel
theorem dX8_init_67 : decode cX8_init 67 = .ok (.putfield 47, 3) := by decide +kernel
theorem dX8_init_70 : decode cX8_init 70 = .ok (.aload_n 0, 1) := by decide +kernel
theorem dX8_init_71 : decode cX8_init 71 = .ok (.new 51, 3) := by decide +kernel
theorem dX8_init_74 : decode cX8_init 74 = .ok (.dup, 1) := by decide +kernel
theorem dX8_init_75 : decode cX8_init 75 = .ok (.invokespecial 53, 3) := by decide +kernel
theorem dX8_init_78 : decode cX8_init 78 = .ok (.putfield 54, 3) := by decide +kernel
theorem dX8_init_81 : decode cX8_init 81 = .ok (.return_, 1) := by decide +kernel
set_option maxRecDepth 20000 in
theorem ggX8_resize_X8_isWithin : GoodIn wsX8_resize wsX8_isWithin := goodIn_r _ [6] (by decide +kernel) (by decide +kernel)
set_option maxRecDepth 20000 in
theorem gX8_resize_X8_isWithin : GoodIn wsX8_resize (va_wsS RX8 58 yX8_isWithin wsX8_isWithin) := goodIn_app (goodIn_of _ (by decide +kernel)) ggX8_resize_X8_isWithin
set_option maxRecDepth 20000 in
theorem ggX8_resize_X7_flatten : GoodIn wsX8_resize wsX7_flatten := goodIn_r _ [11, 12, 13, 14, 28, 29, 30] (by decide +kernel) (by decide +kernel)
set_option maxRecDepth 20000 in
theorem gX8_resize_X7_flatten : GoodIn wsX8_resize (wsV RX8 62 RX7 yX7_flatten wsX7_flatten) := goodIn_app (goodIn_of _ (by decide +kernel)) ggX8_resize_X7_flatten
set_option maxRecDepth 20000 in
theorem ggX8_resize_X6_clear : GoodIn wsX8_resize wsX6_clear := goodIn_r _ [19, 20, 31, 32] (by decide +kernel) (by decide +kernel)
set_option maxRecDepth 20000 in
theorem gX8_resize_X6_clear : GoodIn wsX8_resize (wsV RX8 66 RX6 yX6_clear wsX6_clear) := goodIn_app (goodIn_of _ (by decide +kernel)) ggX8_resize_X6_clear
theorem dX8_resize_0 : decode cX8_resize 0 = .ok (.iload_n 1, 1) := by decide +kernel
theorem dX8_resize_1 : decode cX8_resize 1 = .ok (.iconst 3, 1) := by decide +kernel
theorem dX8_resize_2 : decode cX8_resize 2 = .ok (.bipush 10, 2) := by decide +kernel
theorem dX8_resize_4 : decode cX8_resize 4 = .ok (.invokestatic 58, 3) := by decide +kernel
theorem dX8_resize_7 : decode cX8_resize 7 = .ok (.ifCond .eq 13, 3) := by decide +kernel
theorem dX8_resize_10 : decode cX8_resize 10 = .ok (.iload_n 2, 1) := by decide +kernel
theorem dX8_resize_11 : decode cX8_resize 11 = .ok (.iconst 4, 1) := by decide +kernel
theorem dX8_resize_12 : decode cX8_resize 12 = .ok (.bipush 16, 2) := by decide +kernel
theorem dX8_resize_14 : decode cX8_resize 14 = .ok (.invokestatic 58, 3) := by decide +kernel
theorem dX8_resize_17 : decode cX8_resize 17 = .ok (.ifCond .ne 6, 3) := by decide +kernel
theorem dX8_resize_20 : decode cX8_resize 20 = .ok (.bipush (-4), 2) := by decide +kernel
theorem dX8_resize_22 : decode cX8_resize 22 = .ok (.ireturn, 1) := by decide +kernel
theorem dX8_resize_23 : decode cX8_resize 23 = .ok (.aload_n 0, 1) := by decide +kernel
theorem dX8_resize_24 : decode cX8_resize 24 = .ok (.getfield 10, 3) := by decide +kernel
theorem dX8_resize_27 : decode cX8_resize 27 = .ok (.iload_n 1, 1) := by decide +kernel
theorem dX8_resize_28 : decode cX8_resize 28 = .ok (.iload_n 2, 1) := by decide +kernel
theorem dX8_resize_29 : decode cX8_resize 29 = .ok (.invokevirtual 62, 3) := by decide +kernel
theorem dX8_resize_32 : decode cX8_resize 32 = .ok (.aload_n 0, 1) := by decide +kernel
theorem dX8_resize_33 : decode cX8_resize 33 = .ok (.getfield 33, 3) := by decide +kernel
theorem dX8_resize_36 : decode cX8_resize 36 = .ok (.invokevirtual 66, 3) := by decide +kernel
theorem dX8_resize_39 : decode cX8_resize 39 = .ok (.iload_n 1, 1) := by decide +kernel
theorem dX8_resize_40 : decode cX8_resize 40 = .ok (.iload_n 2, 1) := by decide +kernel
theorem dX8_resize_41 : decode cX8_resize 41 = .ok (.imul, 1) := by decide +kernel
theorem dX8_resize_42 : decode cX8_resize 42 = .ok (.ireturn, 1) := by decide +kernel
set_option maxRecDepth 20000 in
theorem ggX8_setHeight_X7_contains : GoodIn wsX8_setHeight wsX7_contains := goodIn_r _ [6, 7, 8, 29, 30, 31] (by decide +kernel) (by decide +kernel)
set_option maxRecDepth 20000 in
theorem gX8_setHeight_X7_contains : GoodIn wsX8_setHeight (wsV RX8 69 RX7 yX7_contains wsX7_contains) := goodIn_app (goodIn_of _ (by decide +kernel)) ggX8_setHeight_X7_contains
set_option maxRecDepth 20000 in
theorem ggX8_setHeight_X8_isWithin : GoodIn wsX8_setHeight wsX8_isWithin := goodIn_r _ [12] (by decide +kernel) (by decide +kernel)
set_option maxRecDepth 20000 in
theorem gX8_setHeight_X8_isWithin : GoodIn wsX8_setHeight (va_wsS RX8 58 yX8_isWithin wsX8_isWithin) := goodIn_app (goodIn_of _ (by decide +kernel)) ggX8_setHeight_X8_isWithin
set_option maxRecDepth 20000 in
theorem ggX8_setHeight_X7_heightAt : GoodIn wsX8_setHeight wsX7_heightAt := goodIn_r _ [16, 17, 29, 30, 31] (by decide +kernel) (by decide +kernel)
set_option maxRecDepth 20000 in
theorem gX8_setHeight_X7_heightAt : GoodIn wsX8_setHeight (wsV RX8 73 RX7 yX7_heightAt wsX7_heightAt) := goodIn_app (goodIn_of _ (by decide +kernel)) ggX8_setHeight_X7_heightAt
set_option maxRecDepth 20000 in
theorem ggX8_setHeight_X7_put : GoodIn wsX8_setHeight wsX7_put := goodIn_r _ [21, 17, 29, 30, 31] (by decide +kernel) (by decide +kernel)
set_option maxRecDepth 20000 in
theorem gX8_setHeight_X7_put : GoodIn wsX8_setHeight (wsV RX8 77 RX7 yX7_put wsX7_put) := goodIn_app (goodIn_of _ (by decide +kernel)) ggX8_setHeight_X7_put
theorem dX8_setHeight_0 : decode cX8_setHeight 0 = .ok (.aload_n 0, 1) := by decide +kernel
theorem dX8_setHeight_1 : decode cX8_setHeight 1 = .ok (.getfield 10, 3) := by decide +kernel
theorem dX8_setHeight_4 : decode cX8_setHeight 4 = .ok (.iload_n 1, 1) := by decide +kernel
theorem dX8_setHeight_5 : decode cX8_setHeight 5 = .ok (.iload_n 2, 1) := by decide +kernel
theorem dX8_setHeight_6 : decode cX8_setHeight 6 = .ok (.invokevirtual 69, 3) := by decide +kernel
theorem dX8_setHeight_9 : decode cX8_setHeight 9 = .ok (.ifCond .ne 5, 3) := by decide +kernel
theorem dX8_setHeight_12 : decode cX8_setHeight 12 = .ok (.iconst (-1), 1) := by decide +kernel
theorem dX8_setHeight_13 : decode cX8_setHeight 13 = .ok (.ireturn, 1) := by decide +kernel
theorem dX8_setHeight_14 : decode cX8_setHeight 14 = .ok (.iload_n 3, 1) := by decide +kernel
theorem dX8_setHeight_15 : decode cX8_setHeight 15 = .ok (.iconst 0, 1) := by decide +kernel
theorem dX8_setHeight_16 : decode cX8_setHeight 16 = .ok (.sipush 999, 3) := by decide +kernel
theorem dX8_setHeight_19 : decode cX8_setHeight 19 = .ok (.invokestatic 58, 3) := by decide +kernel
theorem dX8_setHeight_22 : decode cX8_setHeight 22 = .ok (.ifCond .ne 6, 3) := by decide +kernel
theorem dX8_setHeight_25 : decode cX8_setHeight 25 = .ok (.bipush (-4), 2) := by decide +kernel
theorem dX8_setHeight_27 : decode cX8_setHeight 27 = .ok (.ireturn, 1) := by decide +kernel
theorem dX8_setHeight_28 : decode cX8_setHeight 28 = .ok (.aload_n 0, 1) := by decide +kernel
theorem dX8_setHeight_29 : decode cX8_setHeight 29 = .ok (.getfield 10, 3) := by decide +kernel
theorem dX8_setHeight_32 : decode cX8_setHeight 32 = .ok (.iload_n 1, 1) := by decide +kernel
theorem dX8_setHeight_33 : decode cX8_setHeight 33 = .ok (.iload_n 2, 1) := by decide +kernel
theorem dX8_setHeight_34 : decode cX8_setHeight 34 = .ok (.invokevirtual 73, 3) := by decide +kernel
theorem dX8_setHeight_37 : decode cX8_setHeight 37 = .ok (.istore 4, 2) := by decide +kernel
theorem dX8_setHeight_39 : decode cX8_setHeight 39 = .ok (.aload_n 0, 1) := by decide +kernel
theorem dX8_setHeight_40 : decode cX8_setHeight 40 = .ok (.getfield 10, 3) := by decide +kernel
theorem dX8_setHeight_43 : decode cX8_setHeight 43 = .ok (.iload_n 1, 1) := by decide +kernel
theorem dX8_setHeight_44 : decode cX8_setHeight 44 = .ok (.iload_n 2, 1) := by decide +kernel
theorem dX8_setHeight_45 : decode cX8_setHeight 45 = .ok (.iload_n 3, 1) := by decide +kernel
theorem dX8_setHeight_46 : decode cX8_setHeight 46 = .ok (.invokevirtual 77, 3) := by decide +kernel
theorem dX8_setHeight_49 : decode cX8_setHeight 49 = .ok (.iload 4, 2) := by decide +kernel
theorem dX8_setHeight_51 : decode cX8_setHeight 51 = .ok (.ireturn, 1) := by decide +kernel
set_option maxRecDepth 20000 in
theorem ggX8_raiseHill_X7_contains : GoodIn wsX8_raiseHill wsX7_contains := goodIn_r _ [6, 7, 8, 45, 46, 47] (by decide +kernel) (by decide +kernel)
set_option maxRecDepth 20000 in
theorem gX8_raiseHill_X7_contains : GoodIn wsX8_raiseHill (wsV RX8 69 RX7 yX7_contains wsX7_contains) := goodIn_app (goodIn_of _ (by decide +kernel)) ggX8_raiseHill_X7_contains
set_option maxRecDepth 20000 in
theorem ggX8_raiseHill_X8_isWithin : GoodIn wsX8_raiseHill wsX8_isWithin := goodIn_r _ [12] (by decide +kernel) (by decide +kernel)
set_option maxRecDepth 20000 in
theorem gX8_raiseHill_X8_isWithin : GoodIn wsX8_raiseHill (va_wsS RX8 58 yX8_isWithin wsX8_isWithin) := goodIn_app (goodIn_of _ (by decide +kernel)) ggX8_raiseHill_X8_isWithin
set_option maxRecDepth 20000 in
theorem ggX8_raiseHill_X7_raise : GoodIn wsX8_raiseHill wsX7_raise := goodIn_r _ [16, 7, 8, 17, 18, 19, 20, 21, 22, 23, 24, 25, 26, 27, 11, 28, 29, 30, 31, 5, 32, 33, 34, 35, 36, 37, 45, 46, 47] (by decide +kernel) (by decide +kernel)
set_option maxRecDepth 20000 in
theorem gX8_raiseHill_X7_raise : GoodIn wsX8_raiseHill (wsV RX8 81 RX7 yX7_raise wsX7_raise) := goodIn_app (goodIn_of _ (by decide +kernel)) ggX8_raiseHill_X7_raise
theorem dX8_raiseHill_0 : decode cX8_raiseHill 0 = .ok (.aload_n 0, 1) := by decide +kernel
theorem dX8_raiseHill_1 : decode cX8_raiseHill 1 = .ok (.getfield 10, 3) := by decide +kernel
theorem dX8_raiseHill_4 : decode cX8_raiseHill 4 = .ok (.iload_n 1, 1) := by decide +kernel
theorem dX8_raiseHill_5 : decode cX8_raiseHill 5 = .ok (.iload_n 2, 1) := by decide +kernel
theorem dX8_raiseHill_6 : decode cX8_raiseHill 6 = .ok (.invokevirtual 69, 3) := by decide +kernel
theorem dX8_raiseHill_9 : decode cX8_raiseHill 9 = .ok (.ifCond .ne 5, 3) := by decide +kernel
theorem dX8_raiseHill_12 : decode cX8_raiseHill 12 = .ok (.iconst (-1), 1) := by decide +kernel
theorem dX8_raiseHill_13 : decode cX8_raiseHill 13 = .ok (.ireturn, 1) := by decide +kernel
theorem dX8_raiseHill_14 : decode cX8_raiseHill 14 = .ok (.iload_n 3, 1) := by decide +kernel
theorem dX8_raiseHill_15 : decode cX8_raiseHill 15 = .ok (.iconst 0, 1) := by decide +kernel
theorem dX8_raiseHill_16 : decode cX8_raiseHill 16 = .ok (.iconst 5, 1) := by decide +kernel
theorem dX8_raiseHill_17 : decode cX8_raiseHill 17 = .ok (.invokestatic 58, 3) := by decide +kernel
theorem dX8_raiseHill_20 : decode cX8_raiseHill 20 = .ok (.ifCond .eq 15, 3) := by decide +kernel
theorem dX8_raiseHill_23 : decode cX8_raiseHill 23 = .ok (.iload 4, 2) := by decide +kernel
theorem dX8_raiseHill_25 : decode cX8_raiseHill 25 = .ok (.iconst 1, 1) := by decide +kernel
theorem dX8_raiseHill_26 : decode cX8_raiseHill 26 = .ok (.sipush 999, 3) := by decide +kernel
theorem dX8_raiseHill_29 : decode cX8_raiseHill 29 = .ok (.invokestatic 58, 3) := by decide +kernel
theorem dX8_raiseHill_32 : decode cX8_raiseHill 32 = .ok (.ifCond .ne 6, 3) := by decide +kernel
theorem dX8_raiseHill_35 : decode cX8_raiseHill 35 = .ok (.bipush (-4), 2) := by decide +kernel
theorem dX8_raiseHill_37 : decode cX8_raiseHill 37 = .ok (.ireturn, 1) := by decide +kernel
theorem dX8_raiseHill_38 : decode cX8_raiseHill 38 = .ok (.aload_n 0, 1) := by decide +kernel
theorem dX8_raiseHill_39 : decode cX8_raiseHill 39 = .ok (.getfield 10, 3) := by decide +kernel
theorem dX8_raiseHill_42 : decode cX8_raiseHill 42 = .ok (.iload_n 1, 1) := by decide +kernel
theorem dX8_raiseHill_43 : decode cX8_raiseHill 43 = .ok (.iload_n 2, 1) := by decide +kernel
theorem dX8_raiseHill_44 : decode cX8_raiseHill 44 = .ok (.iload_n 3, 1) := by decide +kernel
theorem dX8_raiseHill_45 : decode cX8_raiseHill 45 = .ok (.iload 4, 2) := by decide +kernel
theorem dX8_raiseHill_47 : decode cX8_raiseHill 47 = .ok (.invokevirtual 81, 3) := by decide +kernel
theorem dX8_raiseHill_50 : decode cX8_raiseHill 50 = .ok (.ireturn, 1) := by decide +kernel
set_option maxRecDepth 20000 in
theorem ggX8_height_X7_contains : GoodIn wsX8_height wsX7_contains := goodIn_r _ [6, 7, 8, 21, 22, 23] (by decide +kernel) (by decide +kernel)
set_option maxRecDepth 20000 in
theorem gX8_height_X7_contains : GoodIn wsX8_height (wsV RX8 69 RX7 yX7_contains wsX7_contains) := goodIn_app (goodIn_of _ (by decide +kernel)) ggX8_height_X7_contains
set_option maxRecDepth 20000 in
theorem ggX8_height_X7_heightAt : GoodIn wsX8_height wsX7_heightAt := goodIn_r _ [12, 13, 21, 22, 23] (by decide +kernel) (by decide +kernel)
set_option maxRecDepth 20000 in
theorem gX8_height_X7_heightAt : GoodIn wsX8_height (wsV RX8 73 RX7 yX7_heightAt wsX7_heightAt) := goodIn_app (goodIn_of _ (by decide +kernel)) ggX8_height_X7_heightAt
theorem dX8_height_0 : decode cX8_height 0 = .ok (.aload_n 0, 1) := by decide +kernel
theorem dX8_height_1 : decode cX8_height 1 = .ok (.getfield 10, 3) := by decide +kernel
theorem dX8_height_4 : decode cX8_height 4 = .ok (.iload_n 1, 1) := by decide +kernel
theorem dX8_height_5 : decode cX8_height 5 = .ok (.iload_n 2, 1) := by decide +kernel
theorem dX8_height_6 : decode cX8_height 6 = .ok (.invokevirtual 69, 3) := by decide +kernel
theorem dX8_height_9 : decode cX8_height 9 = .ok (.ifCond .ne 5, 3) := by decide +kernel
theorem dX8_height_12 : decode cX8_height 12 = .ok (.iconst (-1), 1) := by decide +kernel
theorem dX8_height_13 : decode cX8_height 13 = .ok (.ireturn, 1) := by decide +kernel
theorem dX8_height_14 : decode cX8_height 14 = .ok (.aload_n 0, 1) := by decide +kernel
theorem dX8_height_15 : decode cX8_height 15 = .ok (.getfield 10, 3) := by decide +kernel
theorem dX8_height_18 : decode cX8_height 18 = .ok (.iload_n 1, 1) := by decide +kernel
theorem dX8_height_19 : decode cX8_height 19 = .ok (.iload_n 2, 1) := by decide +kernel
theorem dX8_height_20 : decode cX8_height 20 = .ok (.invokevirtual 73, 3) := by decide +kernel
theorem dX8_height_23 : decode cX8_height 23 = .ok (.ireturn, 1) := by decide +kernel
set_option maxRecDepth 20000 in
theorem ggX8_setAltitude_X8_isWithin : GoodIn wsX8_setAltitude wsX8_isWithin := goodIn_r _ [6] (by decide +kernel) (by decide +kernel)
set_option maxRecDepth 20000 in
theorem gX8_setAltitude_X8_isWithin : GoodIn wsX8_setAltitude (va_wsS RX8 58 yX8_isWithin wsX8_isWithin) := goodIn_app (goodIn_of _ (by decide +kernel)) ggX8_setAltitude_X8_isWithin
theorem dX8_setAltitude_0 : decode cX8_setAltitude 0 = .ok (.iload_n 1, 1) := by decide +kernel
theorem dX8_setAltitude_1 : decode cX8_setAltitude 1 = .ok (.bipush 100, 2) := by decide +kernel
theorem dX8_setAltitude_3 : decode cX8_setAltitude 3 = .ok (.sipush 5000, 3) := by decide +kernel
theorem dX8_setAltitude_6 : decode cX8_setAltitude 6 = .ok (.invokestatic 58, 3) := by decide +kernel
theorem dX8_setAltitude_9 : decode cX8_setAltitude 9 = .ok (.ifCond .ne 6, 3) := by decide +kernel
theorem dX8_setAltitude_12 : decode cX8_setAltitude 12 = .ok (.bipush (-4), 2) := by decide +kernel
theorem dX8_setAltitude_14 : decode cX8_setAltitude 14 = .ok (.ireturn, 1) := by decide +kernel
theorem dX8_setAltitude_15 : decode cX8_setAltitude 15 = .ok (.aload_n 0, 1) := by decide +kernel
theorem dX8_setAltitude_16 : decode cX8_setAltitude 16 = .ok (.getfield 19, 3) := by decide +kernel
theorem dX8_setAltitude_19 : decode cX8_setAltitude 19 = .ok (.getfield 85, 3) := by decide +kernel
theorem dX8_setAltitude_22 : decode cX8_setAltitude 22 = .ok (.istore_n 2, 1) := by decide +kernel
theorem dX8_setAltitude_23 : decode cX8_setAltitude 23 = .ok (.aload_n 0, 1) := by decide +kernel
theorem dX8_setAltitude_24 : decode cX8_setAltitude 24 = .ok (.getfield 19, 3) := by decide +kernel
theorem dX8_setAltitude_27 : decode cX8_setAltitude 27 = .ok (.iload_n 1, 1) := by decide +kernel
theorem dX8_setAltitude_28 : decode cX8_setAltitude 28 = .ok (.putfield 85, 3) := by decide +kernel
theorem dX8_setAltitude_31 : decode cX8_setAltitude 31 = .ok (.iload_n 2, 1) := by decide +kernel
theorem dX8_setAltitude_32 : decode cX8_setAltitude 32 = .ok (.ireturn, 1) := by decide +kernel
set_option maxRecDepth 20000 in
theorem ggX8_setFields_X8_isWithin : GoodIn wsX8_setFields wsX8_isWithin := goodIn_r _ [7] (by decide +kernel) (by decide +kernel)
set_option maxRecDepth 20000 in
theorem gX8_setFields_X8_isWithin : GoodIn wsX8_setFields (va_wsS RX8 58 yX8_isWithin wsX8_isWithin) := goodIn_app (goodIn_of _ (by decide +kernel)) ggX8_setFields_X8_isWithin
theorem dX8_setFields_0 : decode cX8_setFields 0 = .ok (.iload_n 1, 1) := by decide +kernel
theorem dX8_setFields_1 : decode cX8_setFields 1 = .ok (.iconst 1, 1) := by decide +kernel
theorem dX8_setFields_2 : decode cX8_setFields 2 = .ok (.bipush 50, 2) := by decide +kernel
theorem dX8_setFields_4 : decode cX8_setFields 4 = .ok (.invokestatic 58, 3) := by decide +kernel
theorem dX8_setFields_7 : decode cX8_setFields 7 = .ok (.ifCond .eq 13, 3) := by decide +kernel
theorem dX8_setFields_10 : decode cX8_setFields 10 = .ok (.iload_n 2, 1) := by decide +kernel
theorem dX8_setFields_11 : decode cX8_setFields 11 = .ok (.iconst 1, 1) := by decide +kernel
theorem dX8_setFields_12 : decode cX8_setFields 12 = .ok (.bipush 50, 2) := by decide +kernel
theorem dX8_setFields_14 : decode cX8_setFields 14 = .ok (.invokestatic 58, 3) := by decide +kernel
theorem dX8_setFields_17 : decode cX8_setFields 17 = .ok (.ifCond .ne 6, 3) := by decide +kernel
theorem dX8_setFields_20 : decode cX8_setFields 20 = .ok (.bipush (-4), 2) := by decide +kernel
theorem dX8_setFields_22 : decode cX8_setFields 22 = .ok (.ireturn, 1) := by decide +kernel
theorem dX8_setFields_23 : decode cX8_setFields 23 = .ok (.aload_n 0, 1) := by decide +kernel
theorem dX8_setFields_24 : decode cX8_setFields 24 = .ok (.getfield 19, 3) := by decide +kernel
theorem dX8_setFields_27 : decode cX8_setFields 27 = .ok (.getfield 89, 3) := by decide +kernel
theorem dX8_setFields_30 : decode cX8_setFields 30 = .ok (.iload_n 1, 1) := by decide +kernel
theorem dX8_setFields_31 : decode cX8_setFields 31 = .ok (.if_icmp .ne 14, 3) := by decide +kernel
theorem dX8_setFields_34 : decode cX8_setFields 34 = .ok (.aload_n 0, 1) := by decide +kernel
theorem dX8_setFields_35 : decode cX8_setFields 35 = .ok (.getfield 19, 3) := by decide +kernel
theorem dX8_setFields_38 : decode cX8_setFields 38 = .ok (.getfield 92, 3) := by decide +kernel
theorem dX8_setFields_41 : decode cX8_setFields 41 = .ok (.iload_n 2, 1) := by decide +kernel
theorem dX8_setFields_42 : decode cX8_setFields 42 = .ok (.if_icmp .eq 7, 3) := by decide +kernel
theorem dX8_setFields_45 : decode cX8_setFields 45 = .ok (.iconst 1, 1) := by decide +kernel
theorem dX8_setFields_46 : decode cX8_setFields 46 = .ok (.goto 4, 3) := by decide +kernel
theorem dX8_setFields_49 : decode cX8_setFields 49 = .ok (.iconst 0, 1) := by decide +kernel
theorem dX8_setFields_50 : decode cX8_setFields 50 = .ok (.istore_n 3, 1) := by decide +kernel
theorem dX8_setFields_51 : decode cX8_setFields 51 = .ok (.aload_n 0, 1) := by decide +kernel
theorem dX8_setFields_52 : decode cX8_setFields 52 = .ok (.getfield 19, 3) := by decide +kernel
theorem dX8_setFields_55 : decode cX8_setFields 55 = .ok (.iload_n 1, 1) := by decide +kernel
theorem dX8_setFields_56 : decode cX8_setFields 56 = .ok (.putfield 89, 3) := by decide +kernel
theorem dX8_setFields_59 : decode cX8_setFields 59 = .ok (.aload_n 0, 1) := by decide +kernel
theorem dX8_setFields_60 : decode cX8_setFields 60 = .ok (.getfield 19, 3) := by decide +kernel
theorem dX8_setFields_63 : decode cX8_setFields 63 = .ok (.iload_n 2, 1) := by decide +kernel
theorem dX8_setFields_64 : decode cX8_setFields 64 = .ok (.putfield 92, 3) := by decide +kernel
theorem dX8_setFields_67 : decode cX8_setFields 67 = .ok (.iload_n 3, 1) := by decide +kernel
theorem dX8_setFields_68 : decode cX8_setFields 68 = .ok (.ifCond .eq 7, 3) := by decide +kernel
theorem dX8_setFields_71 : decode cX8_setFields 71 = .ok (.iconst 1, 1) := by decide +kernel
theorem dX8_setFields_72 : decode cX8_setFields 72 = .ok (.goto 4, 3) := by decide +kernel
theorem dX8_setFields_75 : decode cX8_setFields 75 = .ok (.iconst 0, 1) := by decide +kernel
theorem dX8_setFields_76 : decode cX8_setFields 76 = .ok (.ireturn, 1) := by decide +kernel
set_option maxRecDepth 20000 in
theorem ggX8_setCrab_X8_isWithin : GoodIn wsX8_setCrab wsX8_isWithin := goodIn_r _ [6] (by decide +kernel) (by decide +kernel)
set_option maxRecDepth 20000 in
theorem gX8_setCrab_X8_isWithin : GoodIn wsX8_setCrab (va_wsS RX8 58 yX8_isWithin wsX8_isWithin) := goodIn_app (goodIn_of _ (by decide +kernel)) ggX8_setCrab_X8_isWithin
theorem dX8_setCrab_0 : decode cX8_setCrab 0 = .ok (.iload_n 1, 1) := by decide +kernel
theorem dX8_setCrab_1 : decode cX8_setCrab 1 = .ok (.bipush (-100), 2) := by decide +kernel
theorem dX8_setCrab_3 : decode cX8_setCrab 3 = .ok (.bipush 100, 2) := by decide +kernel
theorem dX8_setCrab_5 : decode cX8_setCrab 5 = .ok (.invokestatic 58, 3) := by decide +kernel
theorem dX8_setCrab_8 : decode cX8_setCrab 8 = .ok (.ifCond .ne 6, 3) := by decide +kernel
theorem dX8_setCrab_11 : decode cX8_setCrab 11 = .ok (.bipush (-4), 2) := by decide +kernel
theorem dX8_setCrab_13 : decode cX8_setCrab 13 = .ok (.ireturn, 1) := by decide +kernel
theorem dX8_setCrab_14 : decode cX8_setCrab 14 = .ok (.aload_n 0, 1) := by decide +kernel
theorem dX8_setCrab_15 : decode cX8_setCrab 15 = .ok (.getfield 19, 3) := by decide +kernel
theorem dX8_setCrab_18 : decode cX8_setCrab 18 = .ok (.getfield 95, 3) := by decide +kernel
theorem dX8_setCrab_21 : decode cX8_setCrab 21 = .ok (.iload_n 1, 1) := by decide +kernel
theorem dX8_setCrab_22 : decode cX8_setCrab 22 = .ok (.if_icmp .eq 7, 3) := by decide +kernel
theorem dX8_setCrab_25 : decode cX8_setCrab 25 = .ok (.iconst 1, 1) := by decide +kernel
theorem dX8_setCrab_26 : decode cX8_setCrab 26 = .ok (.goto 4, 3) := by decide +kernel
theorem dX8_setCrab_29 : decode cX8_setCrab 29 = .ok (.iconst 0, 1) := by decide +kernel
theorem dX8_setCrab_30 : decode cX8_setCrab 30 = .ok (.istore_n 2, 1) := by decide +kernel
theorem dX8_setCrab_31 : decode cX8_setCrab 31 = .ok (.aload_n 0, 1) := by decide +kernel
theorem dX8_setCrab_32 : decode cX8_setCrab 32 = .ok (.getfield 19, 3) := by decide +kernel
theorem dX8_setCrab_35 : decode cX8_setCrab 35 = .ok (.iload_n 1, 1) := by decide +kernel
theorem dX8_setCrab_36 : decode cX8_setCrab 36 = .ok (.putfield 95, 3) := by decide +kernel
theorem dX8_setCrab_39 : decode cX8_setCrab 39 = .ok (.iload_n 2, 1) := by decide +kernel
theorem dX8_setCrab_40 : decode cX8_setCrab 40 = .ok (.ifCond .eq 7, 3) := by decide +kernel
theorem dX8_setCrab_43 : decode cX8_setCrab 43 = .ok (.iconst 1, 1) := by decide +kernel
theorem dX8_setCrab_44 : decode cX8_setCrab 44 = .ok (.goto 4, 3) := by decide +kernel
theorem dX8_setCrab_47 : decode cX8_setCrab 47 = .ok (.iconst 0, 1) := by decide +kernel
theorem dX8_setCrab_48 : decode cX8_setCrab 48 = .ok (.ireturn, 1) := by decide +kernel
set_option maxRecDepth 20000 in
theorem ggX8_setSpeed_X8_isWithin : GoodIn wsX8_setSpeed wsX8_isWithin := goodIn_r _ [8] (by decide +kernel) (by decide +kernel)
set_option maxRecDepth 20000 in
theorem gX8_setSpeed_X8_isWithin : GoodIn wsX8_setSpeed (va_wsS RX8 58 yX8_isWithin wsX8_isWithin) := goodIn_app (goodIn_of _ (by decide +kernel)) ggX8_setSpeed_X8_isWithin
theorem dX8_setSpeed_0 : decode cX8_setSpeed 0 = .ok (.iload_n 1, 1) := by decide +kernel
theorem dX8_setSpeed_1 : decode cX8_setSpeed 1 = .ok (.bipush 50, 2) := by decide +kernel
theorem dX8_setSpeed_3 : decode cX8_setSpeed 3 = .ok (.sipush 300, 3) := by decide +kernel
theorem dX8_setSpeed_6 : decode cX8_setSpeed 6 = .ok (.invokestatic 58, 3) := by decide +kernel
theorem dX8_setSpeed_9 : decode cX8_setSpeed 9 = .ok (.ifCond .eq 25, 3) := by decide +kernel
theorem dX8_setSpeed_12 : decode cX8_setSpeed 12 = .ok (.iload_n 2, 1) := by decide +kernel
theorem dX8_setSpeed_13 : decode cX8_setSpeed 13 = .ok (.bipush (-40), 2) := by decide +kernel
theorem dX8_setSpeed_15 : decode cX8_setSpeed 15 = .ok (.bipush 40, 2) := by decide +kernel
theorem dX8_setSpeed_17 : decode cX8_setSpeed 17 = .ok (.invokestatic 58, 3) := by decide +kernel
theorem dX8_setSpeed_20 : decode cX8_setSpeed 20 = .ok (.ifCond .eq 14, 3) := by decide +kernel
theorem dX8_setSpeed_23 : decode cX8_setSpeed 23 = .ok (.iload_n 3, 1) := by decide +kernel
theorem dX8_setSpeed_24 : decode cX8_setSpeed 24 = .ok (.iconst 0, 1) := by decide +kernel
theorem dX8_setSpeed_25 : decode cX8_setSpeed 25 = .ok (.sipush 500, 3) := by decide +kernel
theorem dX8_setSpeed_28 : decode cX8_setSpeed 28 = .ok (.invokestatic 58, 3) := by decide +kernel
theorem dX8_setSpeed_31 : decode cX8_setSpeed 31 = .ok (.ifCond .ne 6, 3) := by decide +kernel
theorem dX8_setSpeed_34 : decode cX8_setSpeed 34 = .ok (.bipush (-4), 2) := by decide +kernel
theorem dX8_setSpeed_36 : decode cX8_setSpeed 36 = .ok (.ireturn, 1) := by decide +kernel
theorem dX8_setSpeed_37 : decode cX8_setSpeed 37 = .ok (.aload_n 0, 1) := by decide +kernel
theorem dX8_setSpeed_38 : decode cX8_setSpeed 38 = .ok (.getfield 26, 3) := by decide +kernel
theorem dX8_setSpeed_41 : decode cX8_setSpeed 41 = .ok (.getfield 98, 3) := by decide +kernel
theorem dX8_setSpeed_44 : decode cX8_setSpeed 44 = .ok (.iload_n 1, 1) := by decide +kernel
theorem dX8_setSpeed_45 : decode cX8_setSpeed 45 = .ok (.if_icmp .ne 25, 3) := by decide +kernel
theorem dX8_setSpeed_48 : decode cX8_setSpeed 48 = .ok (.aload_n 0, 1) := by decide +kernel
theorem dX8_setSpeed_49 : decode cX8_setSpeed 49 = .ok (.getfield 26, 3) := by decide +kernel
theorem dX8_setSpeed_52 : decode cX8_setSpeed 52 = .ok (.getfield 101, 3) := by decide +kernel
theorem dX8_setSpeed_55 : decode cX8_setSpeed 55 = .ok (.iload_n 2, 1) := by decide +kernel
theorem dX8_setSpeed_56 : decode cX8_setSpeed 56 = .ok (.if_icmp .ne 14, 3) := by decide +kernel
theorem dX8_setSpeed_59 : decode cX8_setSpeed 59 = .ok (.aload_n 0, 1) := by decide +kernel
theorem dX8_setSpeed_60 : decode cX8_setSpeed 60 = .ok (.getfield 26, 3) := by decide +kernel
theorem dX8_setSpeed_63 : decode cX8_setSpeed 63 = .ok (.getfield 104, 3) := by decide +kernel
theorem dX8_setSpeed_66 : decode cX8_setSpeed 66 = .ok (.iload_n 3, 1) := by decide +kernel
theorem dX8_setSpeed_67 : decode cX8_setSpeed 67 = .ok (.if_icmp .eq 7, 3) := by decide +kernel
theorem dX8_setSpeed_70 : decode cX8_setSpeed 70 = .ok (.iconst 1, 1) := by decide +kernel
theorem dX8_setSpeed_71 : decode cX8_setSpeed 71 = .ok (.goto 4, 3) := by decide +kernel
theorem dX8_setSpeed_74 : decode cX8_setSpeed 74 = .ok (.iconst 0, 1) := by decide +kernel
theorem dX8_setSpeed_75 : decode cX8_setSpeed 75 = .ok (.istore 4, 2) := by decide +kernel
theorem dX8_setSpeed_77 : decode cX8_setSpeed 77 = .ok (.aload_n 0, 1) := by decide +kernel
theorem dX8_setSpeed_78 : decode cX8_setSpeed 78 = .ok (.getfield 26, 3) := by decide +kernel
theorem dX8_setSpeed_81 : decode cX8_setSpeed 81 = .ok (.iload_n 1, 1) := by decide +kernel
theorem dX8_setSpeed_82 : decode cX8_setSpeed 82 = .ok (.putfield 98, 3) := by decide +kernel
theorem dX8_setSpeed_85 : decode cX8_setSpeed 85 = .ok (.aload_n 0, 1) := by decide +kernel
theorem dX8_setSpeed_86 : decode cX8_setSpeed 86 = .ok (.getfield 26, 3) := by decide +kernel
theorem dX8_setSpeed_89 : decode cX8_setSpeed 89 = .ok (.iload_n 2, 1) := by decide +kernel
theorem dX8_setSpeed_90 : decode cX8_setSpeed 90 = .ok (.putfield 101, 3) := by decide +kernel
theorem dX8_setSpeed_93 : decode cX8_setSpeed 93 = .ok (.aload_n 0, 1) := by decide +kernel
theorem dX8_setSpeed_94 : decode cX8_setSpeed 94 = .ok (.getfield 26, 3) := by decide +kernel
theorem dX8_setSpeed_97 : decode cX8_setSpeed 97 = .ok (.iload_n 3, 1) := by decide +kernel
theorem dX8_setSpeed_98 : decode cX8_setSpeed 98 = .ok (.putfield 104, 3) := by decide +kernel
theorem dX8_setSpeed_101 : decode cX8_setSpeed 101 = .ok (.iload 4, 2) := by decide +kernel
theorem dX8_setSpeed_103 : decode cX8_setSpeed 103 = .ok (.ifCond .eq 7, 3) := by decide +kernel
theorem dX8_setSpeed_106 : decode cX8_setSpeed 106 = .ok (.iconst 1, 1) := by decide +kernel
theorem dX8_setSpeed_107 : decode cX8_setSpeed 107 = .ok (.goto 4, 3) := by decide +kernel
theorem dX8_setSpeed_110 : decode cX8_setSpeed 110 = .ok (.iconst 0, 1) := by decide +kernel
theorem dX8_setSpeed_111 : decode cX8_setSpeed 111 = .ok (.ireturn, 1) := by decide +kernel
set_option maxRecDepth 20000 in
theorem ggX8_addStrip_X7_contains : GoodIn wsX8_addStrip wsX7_contains := goodIn_r _ [7, 8, 9, 37, 38, 39] (by decide +kernel) (by decide +kernel)
set_option maxRecDepth 20000 in
theorem gX8_addStrip_X7_contains : GoodIn wsX8_addStrip (wsV RX8 69 RX7 yX7_contains wsX7_contains) := goodIn_app (goodIn_of _ (by decide +kernel)) ggX8_addStrip_X7_contains
set_option maxRecDepth 20000 in
theorem ggX8_addStrip_X8_isWithin : GoodIn wsX8_addStrip wsX8_isWithin := goodIn_r _ [13] (by decide +kernel) (by decide +kernel)
set_option maxRecDepth 20000 in
theorem gX8_addStrip_X8_isWithin : GoodIn wsX8_addStrip (va_wsS RX8 58 yX8_isWithin wsX8_isWithin) := goodIn_app (goodIn_of _ (by decide +kernel)) ggX8_addStrip_X8_isWithin
set_option maxRecDepth 20000 in
theorem ggX8_addStrip_X6_add : GoodIn wsX8_addStrip wsX6_add := goodIn_r _ [18, 19, 20, 21, 22, 23, 24, 25, 26, 27, 28, 29, 40, 41, 42, 43, 44, 45] (by decide +kernel) (by decide +kernel)
set_option maxRecDepth 20000 in
theorem gX8_addStrip_X6_add : GoodIn wsX8_addStrip (wsV RX8 107 RX6 yX6_add wsX6_add) := goodIn_app (goodIn_of _ (by decide +kernel)) ggX8_addStrip_X6_add
theorem dX8_addStrip_0 : decode cX8_addStrip 0 = .ok (.aload_n 0, 1) := by decide +kernel
theorem dX8_addStrip_1 : decode cX8_addStrip 1 = .ok (.getfield 10, 3) := by decide +kernel
theorem dX8_addStrip_4 : decode cX8_addStrip 4 = .ok (.iload_n 1, 1) := by decide +kernel
theorem dX8_addStrip_5 : decode cX8_addStrip 5 = .ok (.iload_n 2, 1) := by decide +kernel
theorem dX8_addStrip_6 : decode cX8_addStrip 6 = .ok (.invokevirtual 69, 3) := by decide +kernel
theorem dX8_addStrip_9 : decode cX8_addStrip 9 = .ok (.ifCond .eq 15, 3) := by decide +kernel
theorem dX8_addStrip_12 : decode cX8_addStrip 12 = .ok (.aload_n 0, 1) := by decide +kernel
theorem dX8_addStrip_13 : decode cX8_addStrip 13 = .ok (.getfield 10, 3) := by decide +kernel
theorem dX8_addStrip_16 : decode cX8_addStrip 16 = .ok (.iload_n 1, 1) := by decide +kernel
theorem dX8_addStrip_17 : decode cX8_addStrip 17 = .ok (.iload_n 3, 1) := by decide +kernel
theorem dX8_addStrip_18 : decode cX8_addStrip 18 = .ok (.invokevirtual 69, 3) := by decide +kernel
theorem dX8_addStrip_21 : decode cX8_addStrip 21 = .ok (.ifCond .ne 5, 3) := by decide +kernel
theorem dX8_addStrip_24 : decode cX8_addStrip 24 = .ok (.iconst (-1), 1) := by decide +kernel
theorem dX8_addStrip_25 : decode cX8_addStrip 25 = .ok (.ireturn, 1) := by decide +kernel
theorem dX8_addStrip_26 : decode cX8_addStrip 26 = .ok (.iload_n 3, 1) := by decide +kernel
theorem dX8_addStrip_27 : decode cX8_addStrip 27 = .ok (.iload_n 2, 1) := by decide +kernel
theorem dX8_addStrip_28 : decode cX8_addStrip 28 = .ok (.if_icmp .lt 14, 3) := by decide +kernel
theorem dX8_addStrip_31 : decode cX8_addStrip 31 = .ok (.iload 4, 2) := by decide +kernel
theorem dX8_addStrip_33 : decode cX8_addStrip 33 = .ok (.iconst 1, 1) := by decide +kernel
theorem dX8_addStrip_34 : decode cX8_addStrip 34 = .ok (.bipush 16, 2) := by decide +kernel
theorem dX8_addStrip_36 : decode cX8_addStrip 36 = .ok (.invokestatic 58, 3) := by decide +kernel
theorem dX8_addStrip_39 : decode cX8_addStrip 39 = .ok (.ifCond .ne 6, 3) := by decide +kernel
theorem dX8_addStrip_42 : decode cX8_addStrip 42 = .ok (.bipush (-4), 2) := by decide +kernel
theorem dX8_addStrip_44 : decode cX8_addStrip 44 = .ok (.ireturn, 1) := by decide +kernel
theorem dX8_addStrip_45 : decode cX8_addStrip 45 = .ok (.aload_n 0, 1) := by decide +kernel
theorem dX8_addStrip_46 : decode cX8_addStrip 46 = .ok (.getfield 33, 3) := by decide +kernel
theorem dX8_addStrip_49 : decode cX8_addStrip 49 = .ok (.iload_n 1, 1) := by decide +kernel
theorem dX8_addStrip_50 : decode cX8_addStrip 50 = .ok (.iload_n 2, 1) := by decide +kernel
theorem dX8_addStrip_51 : decode cX8_addStrip 51 = .ok (.iload_n 3, 1) := by decide +kernel
theorem dX8_addStrip_52 : decode cX8_addStrip 52 = .ok (.iload 4, 2) := by decide +kernel
theorem dX8_addStrip_54 : decode cX8_addStrip 54 = .ok (.invokevirtual 107, 3) := by decide +kernel
theorem dX8_addStrip_57 : decode cX8_addStrip 57 = .ok (.ireturn, 1) := by decide +kernel
set_option maxRecDepth 20000 in
theorem ggX8_removeStrip_X6_find : GoodIn wsX8_removeStrip wsX6_find := goodIn_r _ [7, 8, 9, 35, 36] (by decide +kernel) (by decide +kernel)
set_option maxRecDepth 20000 in
theorem gX8_removeStrip_X6_find : GoodIn wsX8_removeStrip (wsV RX8 110 RX6 yX6_find wsX6_find) := goodIn_app (goodIn_of _ (by decide +kernel)) ggX8_removeStrip_X6_find
set_option maxRecDepth 20000 in
theorem ggX8_removeStrip_X6_remove : GoodIn wsX8_removeStrip wsX6_remove := goodIn_r _ [13, 8, 9, 14, 15, 16, 17, 18, 4, 5, 6, 7, 19, 20, 21, 22, 23, 24, 25, 26, 27, 35, 36, 37, 38, 39, 40] (by decide +kernel) (by decide +kernel)
set_option maxRecDepth 20000 in
theorem gX8_removeStrip_X6_remove : GoodIn wsX8_removeStrip (wsV RX8 114 RX6 yX6_remove wsX6_remove) := goodIn_app (goodIn_of _ (by decide +kernel)) ggX8_removeStrip_X6_remove
theorem dX8_removeStrip_0 : decode cX8_removeStrip 0 = .ok (.aload_n 0, 1) := by decide +kernel
theorem dX8_removeStrip_1 : decode cX8_removeStrip 1 = .ok (.getfield 33, 3) := by decide +kernel
theorem dX8_removeStrip_4 : decode cX8_removeStrip 4 = .ok (.iload_n 1, 1) := by decide +kernel
theorem dX8_removeStrip_5 : decode cX8_removeStrip 5 = .ok (.invokevirtual 110, 3) := by decide +kernel
theorem dX8_removeStrip_8 : decode cX8_removeStrip 8 = .ok (.ifnonnull 6, 3) := by decide +kernel
theorem dX8_removeStrip_11 : decode cX8_removeStrip 11 = .ok (.bipush (-2), 2) := by decide +kernel
theorem dX8_removeStrip_13 : decode cX8_removeStrip 13 = .ok (.ireturn, 1) := by decide +kernel
theorem dX8_removeStrip_14 : decode cX8_removeStrip 14 = .ok (.aload_n 0, 1) := by decide +kernel
theorem dX8_removeStrip_15 : decode cX8_removeStrip 15 = .ok (.getfield 33, 3) := by decide +kernel
theorem dX8_removeStrip_18 : decode cX8_removeStrip 18 = .ok (.iload_n 1, 1) := by decide +kernel
theorem dX8_removeStrip_19 : decode cX8_removeStrip 19 = .ok (.invokevirtual 114, 3) := by decide +kernel
theorem dX8_removeStrip_22 : decode cX8_removeStrip 22 = .ok (.aload_n 0, 1) := by decide +kernel
theorem dX8_removeStrip_23 : decode cX8_removeStrip 23 = .ok (.getfield 33, 3) := by decide +kernel
theorem dX8_removeStrip_26 : decode cX8_removeStrip 26 = .ok (.getfield 118, 3) := by decide +kernel
theorem dX8_removeStrip_29 : decode cX8_removeStrip 29 = .ok (.ireturn, 1) := by decide +kernel
theorem dX8_stripCount_0 : decode cX8_stripCount 0 = .ok (.aload_n 0, 1) := by decide +kernel
theorem dX8_stripCount_1 : decode cX8_stripCount 1 = .ok (.getfield 33, 3) := by decide +kernel
theorem dX8_stripCount_4 : decode cX8_stripCount 4 = .ok (.getfield 118, 3) := by decide +kernel
theorem dX8_stripCount_7 : decode cX8_stripCount 7 = .ok (.ireturn, 1) := by decide +kernel
set_option maxRecDepth 20000 in
theorem ggX8_photoCount_X6_find : GoodIn wsX8_photoCount wsX6_find := goodIn_r _ [6, 7, 8, 27, 28] (by decide +kernel) (by decide +kernel)
set_option maxRecDepth 20000 in
theorem gX8_photoCount_X6_find : GoodIn wsX8_photoCount (wsV RX8 110 RX6 yX6_find wsX6_find) := goodIn_app (goodIn_of _ (by decide +kernel)) ggX8_photoCount_X6_find
set_option maxRecDepth 20000 in
theorem ggX8_photoCount_X5_photos : GoodIn wsX8_photoCount wsX5_photos := goodIn_r _ [13, 14, 15, 16, 17, 18, 19, 29, 30, 31, 32] (by decide +kernel) (by decide +kernel)
set_option maxRecDepth 20000 in
theorem gX8_photoCount_X5_photos : GoodIn wsX8_photoCount (wsV RX8 121 RX5 yX5_photos wsX5_photos) := goodIn_app (goodIn_of _ (by decide +kernel)) ggX8_photoCount_X5_photos
theorem dX8_photoCount_0 : decode cX8_photoCount 0 = .ok (.aload_n 0, 1) := by decide +kernel
theorem dX8_photoCount_1 : decode cX8_photoCount 1 = .ok (.getfield 33, 3) := by decide +kernel
theorem dX8_photoCount_4 : decode cX8_photoCount 4 = .ok (.iload_n 1, 1) := by decide +kernel
theorem dX8_photoCount_5 : decode cX8_photoCount 5 = .ok (.invokevirtual 110, 3) := by decide +kernel
theorem dX8_photoCount_8 : decode cX8_photoCount 8 = .ok (.astore_n 2, 1) := by decide +kernel
theorem dX8_photoCount_9 : decode cX8_photoCount 9 = .ok (.aload_n 2, 1) := by decide +kernel
theorem dX8_photoCount_10 : decode cX8_photoCount 10 = .ok (.ifnonnull 6, 3) := by decide +kernel
theorem dX8_photoCount_13 : decode cX8_photoCount 13 = .ok (.bipush (-2), 2) := by decide +kernel
theorem dX8_photoCount_15 : decode cX8_photoCount 15 = .ok (.ireturn, 1) := by decide +kernel
theorem dX8_photoCount_16 : decode cX8_photoCount 16 = .ok (.aload_n 2, 1) := by decide +kernel
theorem dX8_photoCount_17 : decode cX8_photoCount 17 = .ok (.invokevirtual 121, 3) := by decide +kernel
theorem dX8_photoCount_20 : decode cX8_photoCount 20 = .ok (.ireturn, 1) := by decide +kernel
set_option maxRecDepth 20000 in
theorem ggX8_photoColumn_X6_find : GoodIn wsX8_photoColumn wsX6_find := goodIn_r _ [6, 7, 8, 35, 36] (by decide +kernel) (by decide +kernel)
set_option maxRecDepth 20000 in
theorem gX8_photoColumn_X6_find : GoodIn wsX8_photoColumn (wsV RX8 110 RX6 yX6_find wsX6_find) := goodIn_app (goodIn_of _ (by decide +kernel)) ggX8_photoColumn_X6_find
set_option maxRecDepth 20000 in
theorem ggX8_photoColumn_X5_hasPhoto : GoodIn wsX8_photoColumn wsX5_hasPhoto := goodIn_r _ [13, 14, 15, 16, 12, 17, 18, 19, 20, 21, 22, 23, 37, 38, 39, 40] (by decide +kernel) (by decide +kernel)
set_option maxRecDepth 20000 in
theorem gX8_photoColumn_X5_hasPhoto : GoodIn wsX8_photoColumn (wsV RX8 127 RX5 yX5_hasPhoto wsX5_hasPhoto) := goodIn_app (goodIn_of _ (by decide +kernel)) ggX8_photoColumn_X5_hasPhoto
set_option maxRecDepth 20000 in
theorem ggX8_photoColumn_X5_columnOf : GoodIn wsX8_photoColumn wsX5_columnOf := goodIn_r _ [27, 19, 20, 37, 38, 39, 40] (by decide +kernel) (by decide +kernel)
set_option maxRecDepth 20000 in
theorem gX8_photoColumn_X5_columnOf : GoodIn wsX8_photoColumn (wsV RX8 131 RX5 yX5_columnOf wsX5_columnOf) := goodIn_app (goodIn_of _ (by decide +kernel)) ggX8_photoColumn_X5_columnOf
theorem dX8_photoColumn_0 : decode cX8_photoColumn 0 = .ok (.aload_n 0, 1) := by decide +kernel
theorem dX8_photoColumn_1 : decode cX8_photoColumn 1 = .ok (.getfield 33, 3) := by decide +kernel
theorem dX8_photoColumn_4 : decode cX8_photoColumn 4 = .ok (.iload_n 1, 1) := by decide +kernel
theorem dX8_photoColumn_5 : decode cX8_photoColumn 5 = .ok (.invokevirtual 110, 3) := by decide +kernel
theorem dX8_photoColumn_8 : decode cX8_photoColumn 8 = .ok (.astore_n 3, 1) := by decide +kernel
theorem dX8_photoColumn_9 : decode cX8_photoColumn 9 = .ok (.aload_n 3, 1) := by decide +kernel
theorem dX8_photoColumn_10 : decode cX8_photoColumn 10 = .ok (.ifnonnull 6, 3) := by decide +kernel
theorem dX8_photoColumn_13 : decode cX8_photoColumn 13 = .ok (.bipush (-2), 2) := by decide +kernel
theorem dX8_photoColumn_15 : decode cX8_photoColumn 15 = .ok (.ireturn, 1) := by decide +kernel
theorem dX8_photoColumn_16 : decode cX8_photoColumn 16 = .ok (.aload_n 3, 1) := by decide +kernel
theorem dX8_photoColumn_17 : decode cX8_photoColumn 17 = .ok (.iload_n 2, 1) := by decide +kernel
theorem dX8_photoColumn_18 : decode cX8_photoColumn 18 = .ok (.invokevirtual 127, 3) := by decide +kernel
theorem dX8_photoColumn_21 : decode cX8_photoColumn 21 = .ok (.ifCond .ne 6, 3) := by decide +kernel
theorem dX8_photoColumn_24 : decode cX8_photoColumn 24 = .ok (.bipush (-3), 2) := by decide +kernel
theorem dX8_photoColumn_26 : decode cX8_photoColumn 26 = .ok (.ireturn, 1) := by decide +kernel
theorem dX8_photoColumn_27 : decode cX8_photoColumn 27 = .ok (.aload_n 3, 1) := by decide +kernel
theorem dX8_photoColumn_28 : decode cX8_photoColumn 28 = .ok (.iload_n 2, 1) := by decide +kernel
theorem dX8_photoColumn_29 : decode cX8_photoColumn 29 = .ok (.invokevirtual 131, 3) := by decide +kernel
theorem dX8_photoColumn_32 : decode cX8_photoColumn 32 = .ok (.ireturn, 1) := by decide +kernel
set_option maxRecDepth 20000 in
theorem ggX8_seesCell_X6_find : GoodIn wsX8_seesCell wsX6_find := goodIn_r _ [9, 10, 11, 78, 79] (by decide +kernel) (by decide +kernel)
set_option maxRecDepth 20000 in
theorem gX8_seesCell_X6_find : GoodIn wsX8_seesCell (wsV RX8 110 RX6 yX6_find wsX6_find) := goodIn_app (goodIn_of _ (by decide +kernel)) ggX8_seesCell_X6_find
set_option maxRecDepth 20000 in
theorem ggX8_seesCell_X5_hasPhoto : GoodIn wsX8_seesCell wsX5_hasPhoto := goodIn_r _ [16, 17, 18, 19, 15, 20, 21, 22, 23, 24, 25, 26, 74, 75, 76, 77] (by decide +kernel) (by decide +kernel)
set_option maxRecDepth 20000 in
theorem gX8_seesCell_X5_hasPhoto : GoodIn wsX8_seesCell (wsV RX8 127 RX5 yX5_hasPhoto wsX5_hasPhoto) := goodIn_app (goodIn_of _ (by decide +kernel)) ggX8_seesCell_X5_hasPhoto
set_option maxRecDepth 20000 in
theorem ggX8_seesCell_X7_contains : GoodIn wsX8_seesCell wsX7_contains := goodIn_r _ [31, 32, 33, 80, 81, 82] (by decide +kernel) (by decide +kernel)
set_option maxRecDepth 20000 in
theorem gX8_seesCell_X7_contains : GoodIn wsX8_seesCell (wsV RX8 69 RX7 yX7_contains wsX7_contains) := goodIn_app (goodIn_of _ (by decide +kernel)) ggX8_seesCell_X7_contains
set_option maxRecDepth 20000 in
theorem ggX8_seesCell_X5_columnOf : GoodIn wsX8_seesCell wsX5_columnOf := goodIn_r _ [37, 22, 23, 74, 75, 76, 77] (by decide +kernel) (by decide +kernel)
set_option maxRecDepth 20000 in
theorem gX8_seesCell_X5_columnOf : GoodIn wsX8_seesCell (wsV RX8 131 RX5 yX5_columnOf wsX5_columnOf) := goodIn_app (goodIn_of _ (by decide +kernel)) ggX8_seesCell_X5_columnOf
set_option maxRecDepth 20000 in
theorem ggX8_seesCell_X1_sees : GoodIn wsX8_seesCell wsX1_sees := goodIn_r _ [42, 43, 44, 45, 46, 47, 48, 49, 50, 51, 52, 53, 30, 54, 55, 56, 57, 58, 41, 59, 60, 61, 62, 63, 64, 65, 66, 83, 84, 85, 86, 80, 81, 82] (by decide +kernel) (by decide +kernel)
set_option maxRecDepth 20000 in
theorem gX8_seesCell_X1_sees : GoodIn wsX8_seesCell (wsV RX8 138 RX1 yX1_sees wsX1_sees) := goodIn_app (goodIn_of _ (by decide +kernel)) ggX8_seesCell_X1_sees
theorem dX8_seesCell_0 : decode cX8_seesCell 0 = .ok (.aload_n 0, 1) := by decide +kernel
theorem dX8_seesCell_1 : decode cX8_seesCell 1 = .ok (.getfield 33, 3) := by decide +kernel
theorem dX8_seesCell_4 : decode cX8_seesCell 4 = .ok (.iload_n 1, 1) := by decide +kernel
theorem dX8_seesCell_5 : decode cX8_seesCell 5 = .ok (.invokevirtual 110, 3) := by decide +kernel
theorem dX8_seesCell_8 : decode cX8_seesCell 8 = .ok (.astore 5, 2) := by decide +kernel
theorem dX8_seesCell_10 : decode cX8_seesCell 10 = .ok (.aload 5, 2) := by decide +kernel
theorem dX8_seesCell_12 : decode cX8_seesCell 12 = .ok (.ifnonnull 6, 3) := by decide +kernel
theorem dX8_seesCell_15 : decode cX8_seesCell 15 = .ok (.bipush (-2), 2) := by decide +kernel
theorem dX8_seesCell_17 : decode cX8_seesCell 17 = .ok (.ireturn, 1) := by decide +kernel
theorem dX8_seesCell_18 : decode cX8_seesCell 18 = .ok (.aload 5, 2) := by decide +kernel
theorem dX8_seesCell_20 : decode cX8_seesCell 20 = .ok (.iload_n 2, 1) := by decide +kernel
theorem dX8_seesCell_21 : decode cX8_seesCell 21 = .ok (.invokevirtual 127, 3) := by decide +kernel
theorem dX8_seesCell_24 : decode cX8_seesCell 24 = .ok (.ifCond .ne 6, 3) := by decide +kernel
theorem dX8_seesCell_27 : decode cX8_seesCell 27 = .ok (.bipush (-3), 2) := by decide +kernel
theorem dX8_seesCell_29 : decode cX8_seesCell 29 = .ok (.ireturn, 1) := by decide +kernel
theorem dX8_seesCell_30 : decode cX8_seesCell 30 = .ok (.aload_n 0, 1) := by decide +kernel
theorem dX8_seesCell_31 : decode cX8_seesCell 31 = .ok (.getfield 10, 3) := by decide +kernel
theorem dX8_seesCell_34 : decode cX8_seesCell 34 = .ok (.iload_n 3, 1) := by decide +kernel
theorem dX8_seesCell_35 : decode cX8_seesCell 35 = .ok (.iload 4, 2) := by decide +kernel
theorem dX8_seesCell_37 : decode cX8_seesCell 37 = .ok (.invokevirtual 69, 3) := by decide +kernel
theorem dX8_seesCell_40 : decode cX8_seesCell 40 = .ok (.ifCond .ne 5, 3) := by decide +kernel
theorem dX8_seesCell_43 : decode cX8_seesCell 43 = .ok (.iconst (-1), 1) := by decide +kernel
theorem dX8_seesCell_44 : decode cX8_seesCell 44 = .ok (.ireturn, 1) := by decide +kernel
theorem dX8_seesCell_45 : decode cX8_seesCell 45 = .ok (.aload_n 0, 1) := by decide +kernel
theorem dX8_seesCell_46 : decode cX8_seesCell 46 = .ok (.getfield 19, 3) := by decide +kernel
theorem dX8_seesCell_49 : decode cX8_seesCell 49 = .ok (.aload_n 0, 1) := by decide +kernel
theorem dX8_seesCell_50 : decode cX8_seesCell 50 = .ok (.getfield 10, 3) := by decide +kernel
theorem dX8_seesCell_53 : decode cX8_seesCell 53 = .ok (.aload 5, 2) := by decide +kernel
theorem dX8_seesCell_55 : decode cX8_seesCell 55 = .ok (.getfield 135, 3) := by decide +kernel
theorem dX8_seesCell_58 : decode cX8_seesCell 58 = .ok (.aload 5, 2) := by decide +kernel
theorem dX8_seesCell_60 : decode cX8_seesCell 60 = .ok (.iload_n 2, 1) := by decide +kernel
theorem dX8_seesCell_61 : decode cX8_seesCell 61 = .ok (.invokevirtual 131, 3) := by decide +kernel
theorem dX8_seesCell_64 : decode cX8_seesCell 64 = .ok (.iload_n 3, 1) := by decide +kernel
theorem dX8_seesCell_65 : decode cX8_seesCell 65 = .ok (.iload 4, 2) := by decide +kernel
theorem dX8_seesCell_67 : decode cX8_seesCell 67 = .ok (.invokevirtual 138, 3) := by decide +kernel
theorem dX8_seesCell_70 : decode cX8_seesCell 70 = .ok (.ifCond .eq 7, 3) := by decide +kernel
theorem dX8_seesCell_73 : decode cX8_seesCell 73 = .ok (.iconst 1, 1) := by decide +kernel
theorem dX8_seesCell_74 : decode cX8_seesCell 74 = .ok (.goto 4, 3) := by decide +kernel
theorem dX8_seesCell_77 : decode cX8_seesCell 77 = .ok (.iconst 0, 1) := by decide +kernel
theorem dX8_seesCell_78 : decode cX8_seesCell 78 = .ok (.ireturn, 1) := by decide +kernel
set_option maxRecDepth 20000 in
theorem ggX8_footprintSize_X6_find : GoodIn wsX8_footprintSize wsX6_find := goodIn_r _ [11, 12, 13, 77, 78] (by decide +kernel) (by decide +kernel)
set_option maxRecDepth 20000 in
theorem gX8_footprintSize_X6_find : GoodIn wsX8_footprintSize (wsV RX8 110 RX6 yX6_find wsX6_find) := goodIn_app (goodIn_of _ (by decide +kernel)) ggX8_footprintSize_X6_find
set_option maxRecDepth 20000 in
theorem ggX8_footprintSize_X5_hasPhoto : GoodIn wsX8_footprintSize wsX5_hasPhoto := goodIn_r _ [18, 19, 20, 21, 17, 22, 23, 24, 25, 26, 27, 28, 73, 74, 75, 76] (by decide +kernel) (by decide +kernel)
set_option maxRecDepth 20000 in
theorem gX8_footprintSize_X5_hasPhoto : GoodIn wsX8_footprintSize (wsV RX8 127 RX5 yX5_hasPhoto wsX5_hasPhoto) := goodIn_app (goodIn_of _ (by decide +kernel)) ggX8_footprintSize_X5_hasPhoto
set_option maxRecDepth 20000 in
theorem ggX8_footprintSize_X5_columnOf : GoodIn wsX8_footprintSize wsX5_columnOf := goodIn_r _ [32, 24, 25, 73, 74, 75, 76] (by decide +kernel) (by decide +kernel)
set_option maxRecDepth 20000 in
theorem gX8_footprintSize_X5_columnOf : GoodIn wsX8_footprintSize (wsV RX8 131 RX5 yX5_columnOf wsX5_columnOf) := goodIn_app (goodIn_of _ (by decide +kernel)) ggX8_footprintSize_X5_columnOf
set_option maxRecDepth 20000 in
theorem ggX8_footprintSize_X1_sees : GoodIn wsX8_footprintSize wsX1_sees := goodIn_r _ [37, 38, 39, 40, 41, 42, 43, 44, 45, 46, 47, 48, 49, 50, 51, 52, 53, 54, 36, 55, 56, 57, 58, 59, 60, 61, 62, 79, 80, 81, 82, 70, 71, 72] (by decide +kernel) (by decide +kernel)
set_option maxRecDepth 20000 in
theorem gX8_footprintSize_X1_sees : GoodIn wsX8_footprintSize (wsV RX8 138 RX1 yX1_sees wsX1_sees) := goodIn_app (goodIn_of _ (by decide +kernel)) ggX8_footprintSize_X1_sees
theorem dX8_footprintSize_0 : decode cX8_footprintSize 0 = .ok (.aload_n 0, 1) := by decide +kernel
theorem dX8_footprintSize_1 : decode cX8_footprintSize 1 = .ok (.getfield 33, 3) := by decide +kernel
theorem dX8_footprintSize_4 : decode cX8_footprintSize 4 = .ok (.iload_n 1, 1) := by decide +kernel
theorem dX8_footprintSize_5 : decode cX8_footprintSize 5 = .ok (.invokevirtual 110, 3) := by decide +kernel
theorem dX8_footprintSize_8 : decode cX8_footprintSize 8 = .ok (.astore_n 3, 1) := by decide +kernel
theorem dX8_footprintSize_9 : decode cX8_footprintSize 9 = .ok (.aload_n 3, 1) := by decide +kernel
theorem dX8_footprintSize_10 : decode cX8_footprintSize 10 = .ok (.ifnonnull 6, 3) := by decide +kernel
theorem dX8_footprintSize_13 : decode cX8_footprintSize 13 = .ok (.bipush (-2), 2) := by decide +kernel
theorem dX8_footprintSize_15 : decode cX8_footprintSize 15 = .ok (.ireturn, 1) := by decide +kernel
theorem dX8_footprintSize_16 : decode cX8_footprintSize 16 = .ok (.aload_n 3, 1) := by decide +kernel
theorem dX8_footprintSize_17 : decode cX8_footprintSize 17 = .ok (.iload_n 2, 1) := by decide +kernel
theorem dX8_footprintSize_18 : decode cX8_footprintSize 18 = .ok (.invokevirtual 127, 3) := by decide +kernel
theorem dX8_footprintSize_21 : decode cX8_footprintSize 21 = .ok (.ifCond .ne 6, 3) := by decide +kernel
theorem dX8_footprintSize_24 : decode cX8_footprintSize 24 = .ok (.bipush (-3), 2) := by decide +kernel
theorem dX8_footprintSize_26 : decode cX8_footprintSize 26 = .ok (.ireturn, 1) := by decide +kernel
theorem dX8_footprintSize_27 : decode cX8_footprintSize 27 = .ok (.aload_n 3, 1) := by decide +kernel
theorem dX8_footprintSize_28 : decode cX8_footprintSize 28 = .ok (.iload_n 2, 1) := by decide +kernel
theorem dX8_footprintSize_29 : decode cX8_footprintSize 29 = .ok (.invokevirtual 131, 3) := by decide +kernel
theorem dX8_footprintSize_32 : decode cX8_footprintSize 32 = .ok (.istore 4, 2) := by decide +kernel
theorem dX8_footprintSize_34 : decode cX8_footprintSize 34 = .ok (.iconst 0, 1) := by decide +kernel
theorem dX8_footprintSize_35 : decode cX8_footprintSize 35 = .ok (.istore 5, 2) := by decide +kernel
theorem dX8_footprintSize_37 : decode cX8_footprintSize 37 = .ok (.iconst 0, 1) := by decide +kernel
theorem dX8_footprintSize_38 : decode cX8_footprintSize 38 = .ok (.istore 6, 2) := by decide +kernel
theorem dX8_footprintSize_40 : decode cX8_footprintSize 40 = .ok (.iload 6, 2) := by decide +kernel
theorem dX8_footprintSize_42 : decode cX8_footprintSize 42 = .ok (.aload_n 0, 1) := by decide +kernel
theorem dX8_footprintSize_43 : decode cX8_footprintSize 43 = .ok (.getfield 10, 3) := by decide +kernel
theorem dX8_footprintSize_46 : decode cX8_footprintSize 46 = .ok (.getfield 142, 3) := by decide +kernel
theorem dX8_footprintSize_49 : decode cX8_footprintSize 49 = .ok (.if_icmp .ge 57, 3) := by decide +kernel
theorem dX8_footprintSize_52 : decode cX8_footprintSize 52 = .ok (.iconst 0, 1) := by decide +kernel
theorem dX8_footprintSize_53 : decode cX8_footprintSize 53 = .ok (.istore 7, 2) := by decide +kernel
theorem dX8_footprintSize_55 : decode cX8_footprintSize 55 = .ok (.iload 7, 2) := by decide +kernel
theorem dX8_footprintSize_57 : decode cX8_footprintSize 57 = .ok (.aload_n 0, 1) := by decide +kernel
theorem dX8_footprintSize_58 : decode cX8_footprintSize 58 = .ok (.getfield 10, 3) := by decide +kernel
theorem dX8_footprintSize_61 : decode cX8_footprintSize 61 = .ok (.getfield 145, 3) := by decide +kernel
theorem dX8_footprintSize_64 : decode cX8_footprintSize 64 = .ok (.if_icmp .ge 36, 3) := by decide +kernel
theorem dX8_footprintSize_67 : decode cX8_footprintSize 67 = .ok (.aload_n 0, 1) := by decide +kernel
theorem dX8_footprintSize_68 : decode cX8_footprintSize 68 = .ok (.getfield 19, 3) := by decide +kernel
theorem dX8_footprintSize_71 : decode cX8_footprintSize 71 = .ok (.aload_n 0, 1) := by decide +kernel
theorem dX8_footprintSize_72 : decode cX8_footprintSize 72 = .ok (.getfield 10, 3) := by decide +kernel
theorem dX8_footprintSize_75 : decode cX8_footprintSize 75 = .ok (.aload_n 3, 1) := by decide +kernel
theorem dX8_footprintSize_76 : decode cX8_footprintSize 76 = .ok (.getfield 135, 3) := by decide +kernel
theorem dX8_footprintSize_79 : decode cX8_footprintSize 79 = .ok (.iload 4, 2) := by decide +kernel
theorem dX8_footprintSize_81 : decode cX8_footprintSize 81 = .ok (.iload 6, 2) := by decide +kernel
theorem dX8_footprintSize_83 : decode cX8_footprintSize 83 = .ok (.iload 7, 2) := by decide +kernel
theorem dX8_footprintSize_85 : decode cX8_footprintSize 85 = .ok (.invokevirtual 138, 3) := by decide +kernel
theorem dX8_footprintSize_88 : decode cX8_footprintSize 88 = .ok (.ifCond .eq 6, 3) := by decide +kernel
theorem dX8_footprintSize_91 : decode cX8_footprintSize 91 = .ok (.iinc 5 1, 3) := by decide +kernel
theorem dX8_footprintSize_94 : decode cX8_footprintSize 94 = .ok (.iinc 7 1, 3) := by decide +kernel
theorem dX8_footprintSize_97 : decode cX8_footprintSize 97 = .ok (.goto (-42), 3) := by decide +kernel
theorem dX8_footprintSize_100 : decode cX8_footprintSize 100 = .ok (.iinc 6 1, 3) := by decide +kernel
theorem dX8_footprintSize_103 : decode cX8_footprintSize 103 = .ok (.goto (-63), 3) := by decide +kernel
theorem dX8_footprintSize_106 : decode cX8_footprintSize 106 = .ok (.iload 5, 2) := by decide +kernel
theorem dX8_footprintSize_108 : decode cX8_footprintSize 108 = .ok (.ireturn, 1) := by decide +kernel
set_option maxRecDepth 20000 in
theorem ggX8_coverage_X7_contains : GoodIn wsX8_coverage wsX7_contains := goodIn_r _ [9, 10, 11, 71, 72, 73] (by decide +kernel) (by decide +kernel)
set_option maxRecDepth 20000 in
theorem gX8_coverage_X7_contains : GoodIn wsX8_coverage (wsV RX8 69 RX7 yX7_contains wsX7_contains) := goodIn_app (goodIn_of _ (by decide +kernel)) ggX8_coverage_X7_contains
set_option maxRecDepth 20000 in
theorem ggX8_coverage_X6_views : GoodIn wsX8_coverage wsX6_views := goodIn_r _ [16, 17, 18, 19, 20, 21, 22, 23, 24, 25, 26, 27, 28, 29, 30, 31, 32, 33, 34, 35, 36, 37, 38, 39, 40, 41, 42, 43, 44, 45, 46, 47, 48, 49, 50, 8, 51, 52, 53, 54, 55, 56, 57, 58, 59, 60, 61, 62, 63, 74, 75, 76, 77, 78, 79, 80, 81, 82, 83, 71, 72, 73] (by decide +kernel) (by decide +kernel)
set_option maxRecDepth 20000 in
theorem gX8_coverage_X6_views : GoodIn wsX8_coverage (wsV RX8 151 RX6 yX6_views wsX6_views) := goodIn_app (goodIn_of _ (by decide +kernel)) ggX8_coverage_X6_views
theorem dX8_coverage_0 : decode cX8_coverage 0 = .ok (.aload_n 0, 1) := by decide +kernel
theorem dX8_coverage_1 : decode cX8_coverage 1 = .ok (.getfield 10, 3) := by decide +kernel
theorem dX8_coverage_4 : decode cX8_coverage 4 = .ok (.iload_n 1, 1) := by decide +kernel
theorem dX8_coverage_5 : decode cX8_coverage 5 = .ok (.iload_n 2, 1) := by decide +kernel
theorem dX8_coverage_6 : decode cX8_coverage 6 = .ok (.invokevirtual 69, 3) := by decide +kernel
theorem dX8_coverage_9 : decode cX8_coverage 9 = .ok (.ifCond .ne 5, 3) := by decide +kernel
theorem dX8_coverage_12 : decode cX8_coverage 12 = .ok (.iconst (-1), 1) := by decide +kernel
theorem dX8_coverage_13 : decode cX8_coverage 13 = .ok (.ireturn, 1) := by decide +kernel
theorem dX8_coverage_14 : decode cX8_coverage 14 = .ok (.aload_n 0, 1) := by decide +kernel
theorem dX8_coverage_15 : decode cX8_coverage 15 = .ok (.getfield 33, 3) := by decide +kernel
theorem dX8_coverage_18 : decode cX8_coverage 18 = .ok (.aload_n 0, 1) := by decide +kernel
theorem dX8_coverage_19 : decode cX8_coverage 19 = .ok (.getfield 10, 3) := by decide +kernel
theorem dX8_coverage_22 : decode cX8_coverage 22 = .ok (.aload_n 0, 1) := by decide +kernel
theorem dX8_coverage_23 : decode cX8_coverage 23 = .ok (.getfield 19, 3) := by decide +kernel
theorem dX8_coverage_26 : decode cX8_coverage 26 = .ok (.iload_n 1, 1) := by decide +kernel
theorem dX8_coverage_27 : decode cX8_coverage 27 = .ok (.iload_n 2, 1) := by decide +kernel
theorem dX8_coverage_28 : decode cX8_coverage 28 = .ok (.ldc 150, 2) := by decide +kernel
theorem dX8_coverage_30 : decode cX8_coverage 30 = .ok (.invokevirtual 151, 3) := by decide +kernel
theorem dX8_coverage_33 : decode cX8_coverage 33 = .ok (.ireturn, 1) := by decide +kernel
set_option maxRecDepth 20000 in
theorem ggX8_gapCount_X8_isWithin : GoodIn wsX8_gapCount wsX8_isWithin := goodIn_r _ [9] (by decide +kernel) (by decide +kernel)
set_option maxRecDepth 20000 in
theorem gX8_gapCount_X8_isWithin : GoodIn wsX8_gapCount (va_wsS RX8 58 yX8_isWithin wsX8_isWithin) := goodIn_app (goodIn_of _ (by decide +kernel)) ggX8_gapCount_X8_isWithin
set_option maxRecDepth 20000 in
theorem ggX8_gapCount_X6_views : GoodIn wsX8_gapCount wsX6_views := goodIn_r _ [14, 15, 16, 17, 18, 19, 20, 21, 22, 23, 24, 25, 26, 8, 27, 28, 29, 30, 31, 32, 33, 34, 35, 36, 37, 38, 39, 40, 41, 42, 43, 44, 45, 46, 47, 48, 49, 50, 51, 52, 53, 54, 55, 56, 57, 58, 59, 60, 61, 72, 73, 74, 75, 76, 77, 78, 79, 80, 81, 69, 70, 71] (by decide +kernel) (by decide +kernel)
set_option maxRecDepth 20000 in
theorem gX8_gapCount_X6_views : GoodIn wsX8_gapCount (wsV RX8 151 RX6 yX6_views wsX6_views) := goodIn_app (goodIn_of _ (by decide +kernel)) ggX8_gapCount_X6_views
theorem dX8_gapCount_0 : decode cX8_gapCount 0 = .ok (.iload_n 1, 1) := by decide +kernel
theorem dX8_gapCount_1 : decode cX8_gapCount 1 = .ok (.iconst 1, 1) := by decide +kernel
theorem dX8_gapCount_2 : decode cX8_gapCount 2 = .ok (.bipush 9, 2) := by decide +kernel
theorem dX8_gapCount_4 : decode cX8_gapCount 4 = .ok (.invokestatic 58, 3) := by decide +kernel
theorem dX8_gapCount_7 : decode cX8_gapCount 7 = .ok (.ifCond .ne 6, 3) := by decide +kernel
theorem dX8_gapCount_10 : decode cX8_gapCount 10 = .ok (.bipush (-4), 2) := by decide +kernel
theorem dX8_gapCount_12 : decode cX8_gapCount 12 = .ok (.ireturn, 1) := by decide +kernel
theorem dX8_gapCount_13 : decode cX8_gapCount 13 = .ok (.iconst 0, 1) := by decide +kernel
theorem dX8_gapCount_14 : decode cX8_gapCount 14 = .ok (.istore_n 2, 1) := by decide +kernel
theorem dX8_gapCount_15 : decode cX8_gapCount 15 = .ok (.iconst 0, 1) := by decide +kernel
theorem dX8_gapCount_16 : decode cX8_gapCount 16 = .ok (.istore_n 3, 1) := by decide +kernel
theorem dX8_gapCount_17 : decode cX8_gapCount 17 = .ok (.iload_n 3, 1) := by decide +kernel
theorem dX8_gapCount_18 : decode cX8_gapCount 18 = .ok (.aload_n 0, 1) := by decide +kernel
theorem dX8_gapCount_19 : decode cX8_gapCount 19 = .ok (.getfield 10, 3) := by decide +kernel
theorem dX8_gapCount_22 : decode cX8_gapCount 22 = .ok (.getfield 142, 3) := by decide +kernel
theorem dX8_gapCount_25 : decode cX8_gapCount 25 = .ok (.if_icmp .ge 56, 3) := by decide +kernel
theorem dX8_gapCount_28 : decode cX8_gapCount 28 = .ok (.iconst 0, 1) := by decide +kernel
theorem dX8_gapCount_29 : decode cX8_gapCount 29 = .ok (.istore 4, 2) := by decide +kernel
theorem dX8_gapCount_31 : decode cX8_gapCount 31 = .ok (.iload 4, 2) := by decide +kernel
theorem dX8_gapCount_33 : decode cX8_gapCount 33 = .ok (.aload_n 0, 1) := by decide +kernel
theorem dX8_gapCount_34 : decode cX8_gapCount 34 = .ok (.getfield 10, 3) := by decide +kernel
theorem dX8_gapCount_37 : decode cX8_gapCount 37 = .ok (.getfield 145, 3) := by decide +kernel
theorem dX8_gapCount_40 : decode cX8_gapCount 40 = .ok (.if_icmp .ge 35, 3) := by decide +kernel
theorem dX8_gapCount_43 : decode cX8_gapCount 43 = .ok (.aload_n 0, 1) := by decide +kernel
theorem dX8_gapCount_44 : decode cX8_gapCount 44 = .ok (.getfield 33, 3) := by decide +kernel
theorem dX8_gapCount_47 : decode cX8_gapCount 47 = .ok (.aload_n 0, 1) := by decide +kernel
theorem dX8_gapCount_48 : decode cX8_gapCount 48 = .ok (.getfield 10, 3) := by decide +kernel
theorem dX8_gapCount_51 : decode cX8_gapCount 51 = .ok (.aload_n 0, 1) := by decide +kernel
theorem dX8_gapCount_52 : decode cX8_gapCount 52 = .ok (.getfield 19, 3) := by decide +kernel
theorem dX8_gapCount_55 : decode cX8_gapCount 55 = .ok (.iload_n 3, 1) := by decide +kernel
theorem dX8_gapCount_56 : decode cX8_gapCount 56 = .ok (.iload 4, 2) := by decide +kernel
theorem dX8_gapCount_58 : decode cX8_gapCount 58 = .ok (.iload_n 1, 1) := by decide +kernel
theorem dX8_gapCount_59 : decode cX8_gapCount 59 = .ok (.invokevirtual 151, 3) := by decide +kernel
theorem dX8_gapCount_62 : decode cX8_gapCount 62 = .ok (.iload_n 1, 1) := by decide +kernel
theorem dX8_gapCount_63 : decode cX8_gapCount 63 = .ok (.if_icmp .ge 6, 3) := by decide +kernel
theorem dX8_gapCount_66 : decode cX8_gapCount 66 = .ok (.iinc 2 1, 3) := by decide +kernel
theorem dX8_gapCount_69 : decode cX8_gapCount 69 = .ok (.iinc 4 1, 3) := by decide +kernel
theorem dX8_gapCount_72 : decode cX8_gapCount 72 = .ok (.goto (-41), 3) := by decide +kernel
theorem dX8_gapCount_75 : decode cX8_gapCount 75 = .ok (.iinc 3 1, 3) := by decide +kernel
theorem dX8_gapCount_78 : decode cX8_gapCount 78 = .ok (.goto (-61), 3) := by decide +kernel
theorem dX8_gapCount_81 : decode cX8_gapCount 81 = .ok (.iload_n 2, 1) := by decide +kernel
theorem dX8_gapCount_82 : decode cX8_gapCount 82 = .ok (.ireturn, 1) := by decide +kernel
set_option maxRecDepth 20000 in
theorem ggX8_gapAt_X8_isWithin : GoodIn wsX8_gapAt wsX8_isWithin := goodIn_r _ [9] (by decide +kernel) (by decide +kernel)
set_option maxRecDepth 20000 in
theorem gX8_gapAt_X8_isWithin : GoodIn wsX8_gapAt (va_wsS RX8 58 yX8_isWithin wsX8_isWithin) := goodIn_app (goodIn_of _ (by decide +kernel)) ggX8_gapAt_X8_isWithin
set_option maxRecDepth 20000 in
theorem ggX8_gapAt_X6_views : GoodIn wsX8_gapAt wsX6_views := goodIn_r _ [14, 15, 16, 17, 18, 19, 20, 21, 22, 23, 24, 25, 26, 8, 27, 28, 29, 30, 31, 32, 33, 34, 35, 36, 37, 38, 39, 40, 41, 42, 43, 44, 45, 46, 47, 48, 49, 50, 51, 52, 53, 54, 55, 56, 57, 58, 59, 60, 61, 72, 73, 74, 75, 76, 77, 78, 79, 80, 81, 69, 70, 71] (by decide +kernel) (by decide +kernel)
set_option maxRecDepth 20000 in
theorem gX8_gapAt_X6_views : GoodIn wsX8_gapAt (wsV RX8 151 RX6 yX6_views wsX6_views) := goodIn_app (goodIn_of _ (by decide +kernel)) ggX8_gapAt_X6_views
theorem dX8_gapAt_0 : decode cX8_gapAt 0 = .ok (.iload_n 1, 1) := by decide +kernel
theorem dX8_gapAt_1 : decode cX8_gapAt 1 = .ok (.iconst 1, 1) := by decide +kernel
theorem dX8_gapAt_2 : decode cX8_gapAt 2 = .ok (.bipush 9, 2) := by decide +kernel
theorem dX8_gapAt_4 : decode cX8_gapAt 4 = .ok (.invokestatic 58, 3) := by decide +kernel
theorem dX8_gapAt_7 : decode cX8_gapAt 7 = .ok (.ifCond .eq 7, 3) := by decide +kernel
theorem dX8_gapAt_10 : decode cX8_gapAt 10 = .ok (.iload_n 2, 1) := by decide +kernel
theorem dX8_gapAt_11 : decode cX8_gapAt 11 = .ok (.ifCond .ge 6, 3) := by decide +kernel
theorem dX8_gapAt_14 : decode cX8_gapAt 14 = .ok (.bipush (-4), 2) := by decide +kernel
theorem dX8_gapAt_16 : decode cX8_gapAt 16 = .ok (.ireturn, 1) := by decide +kernel
theorem dX8_gapAt_17 : decode cX8_gapAt 17 = .ok (.iconst 0, 1) := by decide +kernel
theorem dX8_gapAt_18 : decode cX8_gapAt 18 = .ok (.istore_n 3, 1) := by decide +kernel
theorem dX8_gapAt_19 : decode cX8_gapAt 19 = .ok (.iconst 0, 1) := by decide +kernel
theorem dX8_gapAt_20 : decode cX8_gapAt 20 = .ok (.istore 4, 2) := by decide +kernel
theorem dX8_gapAt_22 : decode cX8_gapAt 22 = .ok (.iload 4, 2) := by decide +kernel
theorem dX8_gapAt_24 : decode cX8_gapAt 24 = .ok (.aload_n 0, 1) := by decide +kernel
theorem dX8_gapAt_25 : decode cX8_gapAt 25 = .ok (.getfield 10, 3) := by decide +kernel
theorem dX8_gapAt_28 : decode cX8_gapAt 28 = .ok (.getfield 142, 3) := by decide +kernel
theorem dX8_gapAt_31 : decode cX8_gapAt 31 = .ok (.if_icmp .ge 71, 3) := by decide +kernel
theorem dX8_gapAt_34 : decode cX8_gapAt 34 = .ok (.iconst 0, 1) := by decide +kernel
theorem dX8_gapAt_35 : decode cX8_gapAt 35 = .ok (.istore 5, 2) := by decide +kernel
theorem dX8_gapAt_37 : decode cX8_gapAt 37 = .ok (.iload 5, 2) := by decide +kernel
theorem dX8_gapAt_39 : decode cX8_gapAt 39 = .ok (.aload_n 0, 1) := by decide +kernel
theorem dX8_gapAt_40 : decode cX8_gapAt 40 = .ok (.getfield 10, 3) := by decide +kernel
theorem dX8_gapAt_43 : decode cX8_gapAt 43 = .ok (.getfield 145, 3) := by decide +kernel
theorem dX8_gapAt_46 : decode cX8_gapAt 46 = .ok (.if_icmp .ge 50, 3) := by decide +kernel
theorem dX8_gapAt_49 : decode cX8_gapAt 49 = .ok (.aload_n 0, 1) := by decide +kernel
theorem dX8_gapAt_50 : decode cX8_gapAt 50 = .ok (.getfield 33, 3) := by decide +kernel
theorem dX8_gapAt_53 : decode cX8_gapAt 53 = .ok (.aload_n 0, 1) := by decide +kernel
theorem dX8_gapAt_54 : decode cX8_gapAt 54 = .ok (.getfield 10, 3) := by decide +kernel
theorem dX8_gapAt_57 : decode cX8_gapAt 57 = .ok (.aload_n 0, 1) := by decide +kernel
theorem dX8_gapAt_58 : decode cX8_gapAt 58 = .ok (.getfield 19, 3) := by decide +kernel
theorem dX8_gapAt_61 : decode cX8_gapAt 61 = .ok (.iload 4, 2) := by decide +kernel
theorem dX8_gapAt_63 : decode cX8_gapAt 63 = .ok (.iload 5, 2) := by decide +kernel
theorem dX8_gapAt_65 : decode cX8_gapAt 65 = .ok (.iload_n 1, 1) := by decide +kernel
theorem dX8_gapAt_66 : decode cX8_gapAt 66 = .ok (.invokevirtual 151, 3) := by decide +kernel
theorem dX8_gapAt_69 : decode cX8_gapAt 69 = .ok (.iload_n 1, 1) := by decide +kernel
theorem dX8_gapAt_70 : decode cX8_gapAt 70 = .ok (.if_icmp .ge 20, 3) := by decide +kernel
theorem dX8_gapAt_73 : decode cX8_gapAt 73 = .ok (.iload_n 3, 1) := by decide +kernel
theorem dX8_gapAt_74 : decode cX8_gapAt 74 = .ok (.iload_n 2, 1) := by decide +kernel
theorem dX8_gapAt_75 : decode cX8_gapAt 75 = .ok (.if_icmp .ne 12, 3) := by decide +kernel
theorem dX8_gapAt_78 : decode cX8_gapAt 78 = .ok (.bipush 100, 2) := by decide +kernel
theorem dX8_gapAt_80 : decode cX8_gapAt 80 = .ok (.iload 4, 2) := by decide +kernel
theorem dX8_gapAt_82 : decode cX8_gapAt 82 = .ok (.imul, 1) := by decide +kernel
theorem dX8_gapAt_83 : decode cX8_gapAt 83 = .ok (.iload 5, 2) := by decide +kernel
theorem dX8_gapAt_85 : decode cX8_gapAt 85 = .ok (.iadd, 1) := by decide +kernel
theorem dX8_gapAt_86 : decode cX8_gapAt 86 = .ok (.ireturn, 1) := by decide +kernel
theorem dX8_gapAt_87 : decode cX8_gapAt 87 = .ok (.iinc 3 1, 3) := by decide +kernel
theorem dX8_gapAt_90 : decode cX8_gapAt 90 = .ok (.iinc 5 1, 3) := by decide +kernel
theorem dX8_gapAt_93 : decode cX8_gapAt 93 = .ok (.goto (-56), 3) := by decide +kernel
theorem dX8_gapAt_96 : decode cX8_gapAt 96 = .ok (.iinc 4 1, 3) := by decide +kernel
theorem dX8_gapAt_99 : decode cX8_gapAt 99 = .ok (.goto (-77), 3) := by decide +kernel
theorem dX8_gapAt_102 : decode cX8_gapAt 102 = .ok (.bipush (-6), 2) := by decide +kernel
theorem dX8_gapAt_104 : decode cX8_gapAt 104 = .ok (.ireturn, 1) := by decide +kernel
set_option maxRecDepth 20000 in
theorem ggX8_forwardOverlap_X6_find : GoodIn wsX8_forwardOverlap wsX6_find := goodIn_r _ [12, 13, 14, 97, 98] (by decide +kernel) (by decide +kernel)
set_option maxRecDepth 20000 in
theorem gX8_forwardOverlap_X6_find : GoodIn wsX8_forwardOverlap (wsV RX8 110 RX6 yX6_find wsX6_find) := goodIn_app (goodIn_of _ (by decide +kernel)) ggX8_forwardOverlap_X6_find
set_option maxRecDepth 20000 in
theorem ggX8_forwardOverlap_X5_hasPhoto : GoodIn wsX8_forwardOverlap wsX5_hasPhoto := goodIn_r _ [19, 20, 21, 22, 18, 23, 24, 25, 26, 27, 28, 29, 93, 94, 95, 96] (by decide +kernel) (by decide +kernel)
set_option maxRecDepth 20000 in
theorem gX8_forwardOverlap_X5_hasPhoto : GoodIn wsX8_forwardOverlap (wsV RX8 127 RX5 yX5_hasPhoto wsX5_hasPhoto) := goodIn_app (goodIn_of _ (by decide +kernel)) ggX8_forwardOverlap_X5_hasPhoto
set_option maxRecDepth 20000 in
theorem ggX8_forwardOverlap_X5_columnOf : GoodIn wsX8_forwardOverlap wsX5_columnOf := goodIn_r _ [33, 25, 26, 93, 94, 95, 96] (by decide +kernel) (by decide +kernel)
set_option maxRecDepth 20000 in
theorem gX8_forwardOverlap_X5_columnOf : GoodIn wsX8_forwardOverlap (wsV RX8 131 RX5 yX5_columnOf wsX5_columnOf) := goodIn_app (goodIn_of _ (by decide +kernel)) ggX8_forwardOverlap_X5_columnOf
set_option maxRecDepth 20000 in
theorem ggX8_forwardOverlap_X2_clear : GoodIn wsX8_forwardOverlap wsX2_clear := goodIn_r _ [38, 39, 40, 41, 99, 100, 101] (by decide +kernel) (by decide +kernel)
set_option maxRecDepth 20000 in
theorem gX8_forwardOverlap_X2_clear : GoodIn wsX8_forwardOverlap (wsV RX8 155 RX2 yX2_clear wsX2_clear) := goodIn_app (goodIn_of _ (by decide +kernel)) ggX8_forwardOverlap_X2_clear
set_option maxRecDepth 20000 in
theorem ggX8_forwardOverlap_X1_sees : GoodIn wsX8_forwardOverlap wsX1_sees := goodIn_r _ [46, 47, 48, 49, 50, 51, 52, 53, 54, 55, 56, 57, 58, 59, 60, 61, 62, 63, 45, 64, 65, 66, 67, 68, 69, 70, 71, 102, 103, 104, 105, 90, 91, 92] (by decide +kernel) (by decide +kernel)
set_option maxRecDepth 20000 in
theorem gX8_forwardOverlap_X1_sees : GoodIn wsX8_forwardOverlap (wsV RX8 138 RX1 yX1_sees wsX1_sees) := goodIn_app (goodIn_of _ (by decide +kernel)) ggX8_forwardOverlap_X1_sees
set_option maxRecDepth 20000 in
theorem ggX8_forwardOverlap_X2_countCell : GoodIn wsX8_forwardOverlap wsX2_countCell := goodIn_r _ [75, 39, 40, 41, 99, 100, 101] (by decide +kernel) (by decide +kernel)
set_option maxRecDepth 20000 in
theorem gX8_forwardOverlap_X2_countCell : GoodIn wsX8_forwardOverlap (wsV RX8 156 RX2 yX2_countCell wsX2_countCell) := goodIn_app (goodIn_of _ (by decide +kernel)) ggX8_forwardOverlap_X2_countCell
set_option maxRecDepth 20000 in
theorem ggX8_forwardOverlap_X2_percent : GoodIn wsX8_forwardOverlap wsX2_percent := goodIn_r _ [79, 41, 39, 40, 80, 81, 51, 82, 27, 28, 29, 99, 100, 101] (by decide +kernel) (by decide +kernel)
set_option maxRecDepth 20000 in
theorem gX8_forwardOverlap_X2_percent : GoodIn wsX8_forwardOverlap (wsV RX8 160 RX2 yX2_percent wsX2_percent) := goodIn_app (goodIn_of _ (by decide +kernel)) ggX8_forwardOverlap_X2_percent
theorem dX8_forwardOverlap_0 : decode cX8_forwardOverlap 0 = .ok (.aload_n 0, 1) := by decide +kernel
theorem dX8_forwardOverlap_1 : decode cX8_forwardOverlap 1 = .ok (.getfield 33, 3) := by decide +kernel
theorem dX8_forwardOverlap_4 : decode cX8_forwardOverlap 4 = .ok (.iload_n 1, 1) := by decide +kernel
theorem dX8_forwardOverlap_5 : decode cX8_forwardOverlap 5 = .ok (.invokevirtual 110, 3) := by decide +kernel
theorem dX8_forwardOverlap_8 : decode cX8_forwardOverlap 8 = .ok (.astore_n 3, 1) := by decide +kernel
theorem dX8_forwardOverlap_9 : decode cX8_forwardOverlap 9 = .ok (.aload_n 3, 1) := by decide +kernel
theorem dX8_forwardOverlap_10 : decode cX8_forwardOverlap 10 = .ok (.ifnonnull 6, 3) := by decide +kernel
theorem dX8_forwardOverlap_13 : decode cX8_forwardOverlap 13 = .ok (.bipush (-2), 2) := by decide +kernel
theorem dX8_forwardOverlap_15 : decode cX8_forwardOverlap 15 = .ok (.ireturn, 1) := by decide +kernel
theorem dX8_forwardOverlap_16 : decode cX8_forwardOverlap 16 = .ok (.aload_n 3, 1) := by decide +kernel
theorem dX8_forwardOverlap_17 : decode cX8_forwardOverlap 17 = .ok (.iload_n 2, 1) := by decide +kernel
theorem dX8_forwardOverlap_18 : decode cX8_forwardOverlap 18 = .ok (.invokevirtual 127, 3) := by decide +kernel
theorem dX8_forwardOverlap_21 : decode cX8_forwardOverlap 21 = .ok (.ifCond .eq 13, 3) := by decide +kernel
theorem dX8_forwardOverlap_24 : decode cX8_forwardOverlap 24 = .ok (.aload_n 3, 1) := by decide +kernel
theorem dX8_forwardOverlap_25 : decode cX8_forwardOverlap 25 = .ok (.iload_n 2, 1) := by decide +kernel
theorem dX8_forwardOverlap_26 : decode cX8_forwardOverlap 26 = .ok (.iconst 1, 1) := by decide +kernel
theorem dX8_forwardOverlap_27 : decode cX8_forwardOverlap 27 = .ok (.iadd, 1) := by decide +kernel
theorem dX8_forwardOverlap_28 : decode cX8_forwardOverlap 28 = .ok (.invokevirtual 127, 3) := by decide +kernel
theorem dX8_forwardOverlap_31 : decode cX8_forwardOverlap 31 = .ok (.ifCond .ne 6, 3) := by decide +kernel
theorem dX8_forwardOverlap_34 : decode cX8_forwardOverlap 34 = .ok (.bipush (-3), 2) := by decide +kernel
theorem dX8_forwardOverlap_36 : decode cX8_forwardOverlap 36 = .ok (.ireturn, 1) := by decide +kernel
theorem dX8_forwardOverlap_37 : decode cX8_forwardOverlap 37 = .ok (.aload_n 3, 1) := by decide +kernel
theorem dX8_forwardOverlap_38 : decode cX8_forwardOverlap 38 = .ok (.iload_n 2, 1) := by decide +kernel
theorem dX8_forwardOverlap_39 : decode cX8_forwardOverlap 39 = .ok (.invokevirtual 131, 3) := by decide +kernel
theorem dX8_forwardOverlap_42 : decode cX8_forwardOverlap 42 = .ok (.istore 4, 2) := by decide +kernel
theorem dX8_forwardOverlap_44 : decode cX8_forwardOverlap 44 = .ok (.aload_n 3, 1) := by decide +kernel
theorem dX8_forwardOverlap_45 : decode cX8_forwardOverlap 45 = .ok (.iload_n 2, 1) := by decide +kernel
theorem dX8_forwardOverlap_46 : decode cX8_forwardOverlap 46 = .ok (.iconst 1, 1) := by decide +kernel
theorem dX8_forwardOverlap_47 : decode cX8_forwardOverlap 47 = .ok (.iadd, 1) := by decide +kernel
theorem dX8_forwardOverlap_48 : decode cX8_forwardOverlap 48 = .ok (.invokevirtual 131, 3) := by decide +kernel
theorem dX8_forwardOverlap_51 : decode cX8_forwardOverlap 51 = .ok (.istore 5, 2) := by decide +kernel
theorem dX8_forwardOverlap_53 : decode cX8_forwardOverlap 53 = .ok (.aload_n 0, 1) := by decide +kernel
theorem dX8_forwardOverlap_54 : decode cX8_forwardOverlap 54 = .ok (.getfield 40, 3) := by decide +kernel
theorem dX8_forwardOverlap_57 : decode cX8_forwardOverlap 57 = .ok (.invokevirtual 155, 3) := by decide +kernel
theorem dX8_forwardOverlap_60 : decode cX8_forwardOverlap 60 = .ok (.iconst 0, 1) := by decide +kernel
theorem dX8_forwardOverlap_61 : decode cX8_forwardOverlap 61 = .ok (.istore 6, 2) := by decide +kernel
theorem dX8_forwardOverlap_63 : decode cX8_forwardOverlap 63 = .ok (.iload 6, 2) := by decide +kernel
theorem dX8_forwardOverlap_65 : decode cX8_forwardOverlap 65 = .ok (.aload_n 0, 1) := by decide +kernel
theorem dX8_forwardOverlap_66 : decode cX8_forwardOverlap 66 = .ok (.getfield 10, 3) := by decide +kernel
theorem dX8_forwardOverlap_69 : decode cX8_forwardOverlap 69 = .ok (.getfield 142, 3) := by decide +kernel
theorem dX8_forwardOverlap_72 : decode cX8_forwardOverlap 72 = .ok (.if_icmp .ge 79, 3) := by decide +kernel
theorem dX8_forwardOverlap_75 : decode cX8_forwardOverlap 75 = .ok (.iconst 0, 1) := by decide +kernel
theorem dX8_forwardOverlap_76 : decode cX8_forwardOverlap 76 = .ok (.istore 7, 2) := by decide +kernel
theorem dX8_forwardOverlap_78 : decode cX8_forwardOverlap 78 = .ok (.iload 7, 2) := by decide +kernel
theorem dX8_forwardOverlap_80 : decode cX8_forwardOverlap 80 = .ok (.aload_n 0, 1) := by decide +kernel
theorem dX8_forwardOverlap_81 : decode cX8_forwardOverlap 81 = .ok (.getfield 10, 3) := by decide +kernel
theorem dX8_forwardOverlap_84 : decode cX8_forwardOverlap 84 = .ok (.getfield 145, 3) := by decide +kernel
theorem dX8_forwardOverlap_87 : decode cX8_forwardOverlap 87 = .ok (.if_icmp .ge 58, 3) := by decide +kernel
theorem dX8_forwardOverlap_90 : decode cX8_forwardOverlap 90 = .ok (.aload_n 0, 1) := by decide +kernel
theorem dX8_forwardOverlap_91 : decode cX8_forwardOverlap 91 = .ok (.getfield 40, 3) := by decide +kernel
theorem dX8_forwardOverlap_94 : decode cX8_forwardOverlap 94 = .ok (.aload_n 0, 1) := by decide +kernel
theorem dX8_forwardOverlap_95 : decode cX8_forwardOverlap 95 = .ok (.getfield 19, 3) := by decide +kernel
theorem dX8_forwardOverlap_98 : decode cX8_forwardOverlap 98 = .ok (.aload_n 0, 1) := by decide +kernel
theorem dX8_forwardOverlap_99 : decode cX8_forwardOverlap 99 = .ok (.getfield 10, 3) := by decide +kernel
theorem dX8_forwardOverlap_102 : decode cX8_forwardOverlap 102 = .ok (.aload_n 3, 1) := by decide +kernel
theorem dX8_forwardOverlap_103 : decode cX8_forwardOverlap 103 = .ok (.getfield 135, 3) := by decide +kernel
theorem dX8_forwardOverlap_106 : decode cX8_forwardOverlap 106 = .ok (.iload 4, 2) := by decide +kernel
theorem dX8_forwardOverlap_108 : decode cX8_forwardOverlap 108 = .ok (.iload 6, 2) := by decide +kernel
theorem dX8_forwardOverlap_110 : decode cX8_forwardOverlap 110 = .ok (.iload 7, 2) := by decide +kernel
theorem dX8_forwardOverlap_112 : decode cX8_forwardOverlap 112 = .ok (.invokevirtual 138, 3) := by decide +kernel
theorem dX8_forwardOverlap_115 : decode cX8_forwardOverlap 115 = .ok (.aload_n 0, 1) := by decide +kernel
theorem dX8_forwardOverlap_116 : decode cX8_forwardOverlap 116 = .ok (.getfield 19, 3) := by decide +kernel
theorem dX8_forwardOverlap_119 : decode cX8_forwardOverlap 119 = .ok (.aload_n 0, 1) := by decide +kernel
theorem dX8_forwardOverlap_120 : decode cX8_forwardOverlap 120 = .ok (.getfield 10, 3) := by decide +kernel
theorem dX8_forwardOverlap_123 : decode cX8_forwardOverlap 123 = .ok (.aload_n 3, 1) := by decide +kernel
theorem dX8_forwardOverlap_124 : decode cX8_forwardOverlap 124 = .ok (.getfield 135, 3) := by decide +kernel
theorem dX8_forwardOverlap_127 : decode cX8_forwardOverlap 127 = .ok (.iload 5, 2) := by decide +kernel
theorem dX8_forwardOverlap_129 : decode cX8_forwardOverlap 129 = .ok (.iload 6, 2) := by decide +kernel
theorem dX8_forwardOverlap_131 : decode cX8_forwardOverlap 131 = .ok (.iload 7, 2) := by decide +kernel
theorem dX8_forwardOverlap_133 : decode cX8_forwardOverlap 133 = .ok (.invokevirtual 138, 3) := by decide +kernel
theorem dX8_forwardOverlap_136 : decode cX8_forwardOverlap 136 = .ok (.invokevirtual 156, 3) := by decide +kernel
theorem dX8_forwardOverlap_139 : decode cX8_forwardOverlap 139 = .ok (.iinc 7 1, 3) := by decide +kernel
theorem dX8_forwardOverlap_142 : decode cX8_forwardOverlap 142 = .ok (.goto (-64), 3) := by decide +kernel
theorem dX8_forwardOverlap_145 : decode cX8_forwardOverlap 145 = .ok (.iinc 6 1, 3) := by decide +kernel
theorem dX8_forwardOverlap_148 : decode cX8_forwardOverlap 148 = .ok (.goto (-85), 3) := by decide +kernel
theorem dX8_forwardOverlap_151 : decode cX8_forwardOverlap 151 = .ok (.aload_n 0, 1) := by decide +kernel
theorem dX8_forwardOverlap_152 : decode cX8_forwardOverlap 152 = .ok (.getfield 40, 3) := by decide +kernel
theorem dX8_forwardOverlap_155 : decode cX8_forwardOverlap 155 = .ok (.invokevirtual 160, 3) := by decide +kernel
theorem dX8_forwardOverlap_158 : decode cX8_forwardOverlap 158 = .ok (.ireturn, 1) := by decide +kernel
set_option maxRecDepth 20000 in
theorem ggX8_sideOverlap_X6_find : GoodIn wsX8_sideOverlap wsX6_find := goodIn_r _ [11, 12, 13, 93, 94] (by decide +kernel) (by decide +kernel)
set_option maxRecDepth 20000 in
theorem gX8_sideOverlap_X6_find : GoodIn wsX8_sideOverlap (wsV RX8 110 RX6 yX6_find wsX6_find) := goodIn_app (goodIn_of _ (by decide +kernel)) ggX8_sideOverlap_X6_find
set_option maxRecDepth 20000 in
theorem ggX8_sideOverlap_X2_clear : GoodIn wsX8_sideOverlap wsX2_clear := goodIn_r _ [18, 19, 20, 21, 95, 96, 97] (by decide +kernel) (by decide +kernel)
set_option maxRecDepth 20000 in
theorem gX8_sideOverlap_X2_clear : GoodIn wsX8_sideOverlap (wsV RX8 155 RX2 yX2_clear wsX2_clear) := goodIn_app (goodIn_of _ (by decide +kernel)) ggX8_sideOverlap_X2_clear
set_option maxRecDepth 20000 in
theorem ggX8_sideOverlap_X5_sees : GoodIn wsX8_sideOverlap wsX5_sees := goodIn_r _ [26, 27, 28, 29, 30, 25, 31, 32, 33, 34, 35, 36, 37, 38, 39, 40, 41, 42, 43, 44, 45, 46, 47, 48, 49, 50, 51, 52, 53, 54, 55, 56, 57, 58, 59, 60, 61, 62, 63, 64, 65, 66, 67, 68, 69, 70, 71, 98, 99, 100, 101, 102, 103, 104, 105, 90, 91, 92] (by decide +kernel) (by decide +kernel)
set_option maxRecDepth 20000 in
theorem gX8_sideOverlap_X5_sees : GoodIn wsX8_sideOverlap (wsV RX8 163 RX5 yX5_sees wsX5_sees) := goodIn_app (goodIn_of _ (by decide +kernel)) ggX8_sideOverlap_X5_sees
set_option maxRecDepth 20000 in
theorem ggX8_sideOverlap_X2_countCell : GoodIn wsX8_sideOverlap wsX2_countCell := goodIn_r _ [75, 19, 20, 21, 95, 96, 97] (by decide +kernel) (by decide +kernel)
set_option maxRecDepth 20000 in
theorem gX8_sideOverlap_X2_countCell : GoodIn wsX8_sideOverlap (wsV RX8 156 RX2 yX2_countCell wsX2_countCell) := goodIn_app (goodIn_of _ (by decide +kernel)) ggX8_sideOverlap_X2_countCell
set_option maxRecDepth 20000 in
theorem ggX8_sideOverlap_X2_percent : GoodIn wsX8_sideOverlap wsX2_percent := goodIn_r _ [79, 21, 19, 20, 80, 81, 51, 82, 35, 36, 37, 95, 96, 97] (by decide +kernel) (by decide +kernel)
set_option maxRecDepth 20000 in
theorem gX8_sideOverlap_X2_percent : GoodIn wsX8_sideOverlap (wsV RX8 160 RX2 yX2_percent wsX2_percent) := goodIn_app (goodIn_of _ (by decide +kernel)) ggX8_sideOverlap_X2_percent
theorem dX8_sideOverlap_0 : decode cX8_sideOverlap 0 = .ok (.aload_n 0, 1) := by decide +kernel
theorem dX8_sideOverlap_1 : decode cX8_sideOverlap 1 = .ok (.getfield 33, 3) := by decide +kernel
theorem dX8_sideOverlap_4 : decode cX8_sideOverlap 4 = .ok (.iload_n 1, 1) := by decide +kernel
theorem dX8_sideOverlap_5 : decode cX8_sideOverlap 5 = .ok (.invokevirtual 110, 3) := by decide +kernel
theorem dX8_sideOverlap_8 : decode cX8_sideOverlap 8 = .ok (.astore_n 3, 1) := by decide +kernel
theorem dX8_sideOverlap_9 : decode cX8_sideOverlap 9 = .ok (.aload_n 0, 1) := by decide +kernel
theorem dX8_sideOverlap_10 : decode cX8_sideOverlap 10 = .ok (.getfield 33, 3) := by decide +kernel
theorem dX8_sideOverlap_13 : decode cX8_sideOverlap 13 = .ok (.iload_n 2, 1) := by decide +kernel
theorem dX8_sideOverlap_14 : decode cX8_sideOverlap 14 = .ok (.invokevirtual 110, 3) := by decide +kernel
theorem dX8_sideOverlap_17 : decode cX8_sideOverlap 17 = .ok (.astore 4, 2) := by decide +kernel
theorem dX8_sideOverlap_19 : decode cX8_sideOverlap 19 = .ok (.aload_n 3, 1) := by decide +kernel
theorem dX8_sideOverlap_20 : decode cX8_sideOverlap 20 = .ok (.ifnull 8, 3) := by decide +kernel
theorem dX8_sideOverlap_23 : decode cX8_sideOverlap 23 = .ok (.aload 4, 2) := by decide +kernel
theorem dX8_sideOverlap_25 : decode cX8_sideOverlap 25 = .ok (.ifnonnull 6, 3) := by decide +kernel
theorem dX8_sideOverlap_28 : decode cX8_sideOverlap 28 = .ok (.bipush (-2), 2) := by decide +kernel
theorem dX8_sideOverlap_30 : decode cX8_sideOverlap 30 = .ok (.ireturn, 1) := by decide +kernel
theorem dX8_sideOverlap_31 : decode cX8_sideOverlap 31 = .ok (.aload_n 0, 1) := by decide +kernel
theorem dX8_sideOverlap_32 : decode cX8_sideOverlap 32 = .ok (.getfield 40, 3) := by decide +kernel
theorem dX8_sideOverlap_35 : decode cX8_sideOverlap 35 = .ok (.invokevirtual 155, 3) := by decide +kernel
theorem dX8_sideOverlap_38 : decode cX8_sideOverlap 38 = .ok (.iconst 0, 1) := by decide +kernel
theorem dX8_sideOverlap_39 : decode cX8_sideOverlap 39 = .ok (.istore 5, 2) := by decide +kernel
theorem dX8_sideOverlap_41 : decode cX8_sideOverlap 41 = .ok (.iload 5, 2) := by decide +kernel
theorem dX8_sideOverlap_43 : decode cX8_sideOverlap 43 = .ok (.aload_n 0, 1) := by decide +kernel
theorem dX8_sideOverlap_44 : decode cX8_sideOverlap 44 = .ok (.getfield 10, 3) := by decide +kernel
theorem dX8_sideOverlap_47 : decode cX8_sideOverlap 47 = .ok (.getfield 142, 3) := by decide +kernel
theorem dX8_sideOverlap_50 : decode cX8_sideOverlap 50 = .ok (.if_icmp .ge 70, 3) := by decide +kernel
theorem dX8_sideOverlap_53 : decode cX8_sideOverlap 53 = .ok (.iconst 0, 1) := by decide +kernel
theorem dX8_sideOverlap_54 : decode cX8_sideOverlap 54 = .ok (.istore 6, 2) := by decide +kernel
theorem dX8_sideOverlap_56 : decode cX8_sideOverlap 56 = .ok (.iload 6, 2) := by decide +kernel
theorem dX8_sideOverlap_58 : decode cX8_sideOverlap 58 = .ok (.aload_n 0, 1) := by decide +kernel
theorem dX8_sideOverlap_59 : decode cX8_sideOverlap 59 = .ok (.getfield 10, 3) := by decide +kernel
theorem dX8_sideOverlap_62 : decode cX8_sideOverlap 62 = .ok (.getfield 145, 3) := by decide +kernel
theorem dX8_sideOverlap_65 : decode cX8_sideOverlap 65 = .ok (.if_icmp .ge 49, 3) := by decide +kernel
theorem dX8_sideOverlap_68 : decode cX8_sideOverlap 68 = .ok (.aload_n 0, 1) := by decide +kernel
theorem dX8_sideOverlap_69 : decode cX8_sideOverlap 69 = .ok (.getfield 40, 3) := by decide +kernel
theorem dX8_sideOverlap_72 : decode cX8_sideOverlap 72 = .ok (.aload_n 3, 1) := by decide +kernel
theorem dX8_sideOverlap_73 : decode cX8_sideOverlap 73 = .ok (.aload_n 0, 1) := by decide +kernel
theorem dX8_sideOverlap_74 : decode cX8_sideOverlap 74 = .ok (.getfield 10, 3) := by decide +kernel
theorem dX8_sideOverlap_77 : decode cX8_sideOverlap 77 = .ok (.aload_n 0, 1) := by decide +kernel
theorem dX8_sideOverlap_78 : decode cX8_sideOverlap 78 = .ok (.getfield 19, 3) := by decide +kernel
theorem dX8_sideOverlap_81 : decode cX8_sideOverlap 81 = .ok (.iload 5, 2) := by decide +kernel
theorem dX8_sideOverlap_83 : decode cX8_sideOverlap 83 = .ok (.iload 6, 2) := by decide +kernel
theorem dX8_sideOverlap_85 : decode cX8_sideOverlap 85 = .ok (.invokevirtual 163, 3) := by decide +kernel
theorem dX8_sideOverlap_88 : decode cX8_sideOverlap 88 = .ok (.aload 4, 2) := by decide +kernel
theorem dX8_sideOverlap_90 : decode cX8_sideOverlap 90 = .ok (.aload_n 0, 1) := by decide +kernel
theorem dX8_sideOverlap_91 : decode cX8_sideOverlap 91 = .ok (.getfield 10, 3) := by decide +kernel
theorem dX8_sideOverlap_94 : decode cX8_sideOverlap 94 = .ok (.aload_n 0, 1) := by decide +kernel
theorem dX8_sideOverlap_95 : decode cX8_sideOverlap 95 = .ok (.getfield 19, 3) := by decide +kernel
theorem dX8_sideOverlap_98 : decode cX8_sideOverlap 98 = .ok (.iload 5, 2) := by decide +kernel
theorem dX8_sideOverlap_100 : decode cX8_sideOverlap 100 = .ok (.iload 6, 2) := by decide +kernel
theorem dX8_sideOverlap_102 : decode cX8_sideOverlap 102 = .ok (.invokevirtual 163, 3) := by decide +kernel
theorem dX8_sideOverlap_105 : decode cX8_sideOverlap 105 = .ok (.invokevirtual 156, 3) := by decide +kernel
theorem dX8_sideOverlap_108 : decode cX8_sideOverlap 108 = .ok (.iinc 6 1, 3) := by decide +kernel
theorem dX8_sideOverlap_111 : decode cX8_sideOverlap 111 = .ok (.goto (-55), 3) := by decide +kernel
theorem dX8_sideOverlap_114 : decode cX8_sideOverlap 114 = .ok (.iinc 5 1, 3) := by decide +kernel
theorem dX8_sideOverlap_117 : decode cX8_sideOverlap 117 = .ok (.goto (-76), 3) := by decide +kernel
theorem dX8_sideOverlap_120 : decode cX8_sideOverlap 120 = .ok (.aload_n 0, 1) := by decide +kernel
theorem dX8_sideOverlap_121 : decode cX8_sideOverlap 121 = .ok (.getfield 40, 3) := by decide +kernel
theorem dX8_sideOverlap_124 : decode cX8_sideOverlap 124 = .ok (.invokevirtual 160, 3) := by decide +kernel
theorem dX8_sideOverlap_127 : decode cX8_sideOverlap 127 = .ok (.ireturn, 1) := by decide +kernel
set_option maxRecDepth 20000 in
theorem ggX8_planPhotos_X8_isWithin : GoodIn wsX8_planPhotos wsX8_isWithin := goodIn_r _ [8] (by decide +kernel) (by decide +kernel)
set_option maxRecDepth 20000 in
theorem gX8_planPhotos_X8_isWithin : GoodIn wsX8_planPhotos (va_wsS RX8 58 yX8_isWithin wsX8_isWithin) := goodIn_app (goodIn_of _ (by decide +kernel)) ggX8_planPhotos_X8_isWithin
set_option maxRecDepth 20000 in
theorem ggX8_planPhotos_X3_search : GoodIn wsX8_planPhotos wsX3_search := goodIn_r _ [13, 14, 15, 16, 17, 18, 19, 20, 21, 22, 23, 24, 25, 26, 27, 28, 7, 29, 30, 31, 32, 33, 34, 35, 36, 37, 38, 39, 40, 41, 42, 43, 44, 45, 46, 47, 48, 49, 50, 51, 52, 53, 54, 55, 56, 57, 58, 59, 60, 61, 62, 63, 64, 65, 66, 67, 68, 69, 70, 71, 72, 73, 74, 75, 76, 77, 78, 79, 80, 81, 82, 83, 84, 85, 86, 87, 88, 89, 90, 91, 92, 93, 94, 95, 96, 97, 98, 110, 111, 112, 106, 107, 108, 109, 113, 114, 115, 116, 117, 118, 119, 120, 121, 122] (by decide +kernel) (by decide +kernel)
set_option maxRecDepth 20000 in
theorem gX8_planPhotos_X3_search : GoodIn wsX8_planPhotos (wsV RX8 166 RX3 yX3_search wsX3_search) := goodIn_app (goodIn_of _ (by decide +kernel)) ggX8_planPhotos_X3_search
theorem dX8_planPhotos_0 : decode cX8_planPhotos 0 = .ok (.iload_n 1, 1) := by decide +kernel
theorem dX8_planPhotos_1 : decode cX8_planPhotos 1 = .ok (.iconst 1, 1) := by decide +kernel
theorem dX8_planPhotos_2 : decode cX8_planPhotos 2 = .ok (.bipush 9, 2) := by decide +kernel
theorem dX8_planPhotos_4 : decode cX8_planPhotos 4 = .ok (.invokestatic 58, 3) := by decide +kernel
theorem dX8_planPhotos_7 : decode cX8_planPhotos 7 = .ok (.ifCond .ne 6, 3) := by decide +kernel
theorem dX8_planPhotos_10 : decode cX8_planPhotos 10 = .ok (.bipush (-4), 2) := by decide +kernel
theorem dX8_planPhotos_12 : decode cX8_planPhotos 12 = .ok (.ireturn, 1) := by decide +kernel
theorem dX8_planPhotos_13 : decode cX8_planPhotos 13 = .ok (.aload_n 0, 1) := by decide +kernel
theorem dX8_planPhotos_14 : decode cX8_planPhotos 14 = .ok (.getfield 47, 3) := by decide +kernel
theorem dX8_planPhotos_17 : decode cX8_planPhotos 17 = .ok (.aload_n 0, 1) := by decide +kernel
theorem dX8_planPhotos_18 : decode cX8_planPhotos 18 = .ok (.getfield 10, 3) := by decide +kernel
theorem dX8_planPhotos_21 : decode cX8_planPhotos 21 = .ok (.aload_n 0, 1) := by decide +kernel
theorem dX8_planPhotos_22 : decode cX8_planPhotos 22 = .ok (.getfield 19, 3) := by decide +kernel
theorem dX8_planPhotos_25 : decode cX8_planPhotos 25 = .ok (.iload_n 1, 1) := by decide +kernel
theorem dX8_planPhotos_26 : decode cX8_planPhotos 26 = .ok (.invokevirtual 166, 3) := by decide +kernel
theorem dX8_planPhotos_29 : decode cX8_planPhotos 29 = .ok (.ifCond .eq 13, 3) := by decide +kernel
theorem dX8_planPhotos_32 : decode cX8_planPhotos 32 = .ok (.aload_n 0, 1) := by decide +kernel
theorem dX8_planPhotos_33 : decode cX8_planPhotos 33 = .ok (.getfield 47, 3) := by decide +kernel
theorem dX8_planPhotos_36 : decode cX8_planPhotos 36 = .ok (.getfield 170, 3) := by decide +kernel
theorem dX8_planPhotos_39 : decode cX8_planPhotos 39 = .ok (.goto 5, 3) := by decide +kernel
theorem dX8_planPhotos_42 : decode cX8_planPhotos 42 = .ok (.bipush (-6), 2) := by decide +kernel
theorem dX8_planPhotos_44 : decode cX8_planPhotos 44 = .ok (.ireturn, 1) := by decide +kernel
set_option maxRecDepth 20000 in
theorem ggX8_planRowSpacing_X8_isWithin : GoodIn wsX8_planRowSpacing wsX8_isWithin := goodIn_r _ [8] (by decide +kernel) (by decide +kernel)
set_option maxRecDepth 20000 in
theorem gX8_planRowSpacing_X8_isWithin : GoodIn wsX8_planRowSpacing (va_wsS RX8 58 yX8_isWithin wsX8_isWithin) := goodIn_app (goodIn_of _ (by decide +kernel)) ggX8_planRowSpacing_X8_isWithin
set_option maxRecDepth 20000 in
theorem ggX8_planRowSpacing_X3_search : GoodIn wsX8_planRowSpacing wsX3_search := goodIn_r _ [13, 14, 15, 16, 17, 18, 19, 20, 21, 22, 23, 24, 25, 26, 27, 28, 7, 29, 30, 31, 32, 33, 34, 35, 36, 37, 38, 39, 40, 41, 42, 43, 44, 45, 46, 47, 48, 49, 50, 51, 52, 53, 54, 55, 56, 57, 58, 59, 60, 61, 62, 63, 64, 65, 66, 67, 68, 69, 70, 71, 72, 73, 74, 75, 76, 77, 78, 79, 80, 81, 82, 83, 84, 85, 86, 87, 88, 89, 90, 91, 92, 93, 94, 95, 96, 97, 98, 110, 111, 112, 106, 107, 108, 109, 113, 114, 115, 116, 117, 118, 119, 120, 121, 122] (by decide +kernel) (by decide +kernel)
set_option maxRecDepth 20000 in
theorem gX8_planRowSpacing_X3_search : GoodIn wsX8_planRowSpacing (wsV RX8 166 RX3 yX3_search wsX3_search) := goodIn_app (goodIn_of _ (by decide +kernel)) ggX8_planRowSpacing_X3_search
theorem dX8_planRowSpacing_0 : decode cX8_planRowSpacing 0 = .ok (.iload_n 1, 1) := by decide +kernel
theorem dX8_planRowSpacing_1 : decode cX8_planRowSpacing 1 = .ok (.iconst 1, 1) := by decide +kernel
theorem dX8_planRowSpacing_2 : decode cX8_planRowSpacing 2 = .ok (.bipush 9, 2) := by decide +kernel
theorem dX8_planRowSpacing_4 : decode cX8_planRowSpacing 4 = .ok (.invokestatic 58, 3) := by decide +kernel
theorem dX8_planRowSpacing_7 : decode cX8_planRowSpacing 7 = .ok (.ifCond .ne 6, 3) := by decide +kernel
theorem dX8_planRowSpacing_10 : decode cX8_planRowSpacing 10 = .ok (.bipush (-4), 2) := by decide +kernel
theorem dX8_planRowSpacing_12 : decode cX8_planRowSpacing 12 = .ok (.ireturn, 1) := by decide +kernel
theorem dX8_planRowSpacing_13 : decode cX8_planRowSpacing 13 = .ok (.aload_n 0, 1) := by decide +kernel
theorem dX8_planRowSpacing_14 : decode cX8_planRowSpacing 14 = .ok (.getfield 47, 3) := by decide +kernel
theorem dX8_planRowSpacing_17 : decode cX8_planRowSpacing 17 = .ok (.aload_n 0, 1) := by decide +kernel
theorem dX8_planRowSpacing_18 : decode cX8_planRowSpacing 18 = .ok (.getfield 10, 3) := by decide +kernel
theorem dX8_planRowSpacing_21 : decode cX8_planRowSpacing 21 = .ok (.aload_n 0, 1) := by decide +kernel
theorem dX8_planRowSpacing_22 : decode cX8_planRowSpacing 22 = .ok (.getfield 19, 3) := by decide +kernel
theorem dX8_planRowSpacing_25 : decode cX8_planRowSpacing 25 = .ok (.iload_n 1, 1) := by decide +kernel
theorem dX8_planRowSpacing_26 : decode cX8_planRowSpacing 26 = .ok (.invokevirtual 166, 3) := by decide +kernel
theorem dX8_planRowSpacing_29 : decode cX8_planRowSpacing 29 = .ok (.ifCond .eq 13, 3) := by decide +kernel
theorem dX8_planRowSpacing_32 : decode cX8_planRowSpacing 32 = .ok (.aload_n 0, 1) := by decide +kernel
theorem dX8_planRowSpacing_33 : decode cX8_planRowSpacing 33 = .ok (.getfield 47, 3) := by decide +kernel
theorem dX8_planRowSpacing_36 : decode cX8_planRowSpacing 36 = .ok (.getfield 172, 3) := by decide +kernel
theorem dX8_planRowSpacing_39 : decode cX8_planRowSpacing 39 = .ok (.goto 5, 3) := by decide +kernel
theorem dX8_planRowSpacing_42 : decode cX8_planRowSpacing 42 = .ok (.bipush (-6), 2) := by decide +kernel
theorem dX8_planRowSpacing_44 : decode cX8_planRowSpacing 44 = .ok (.ireturn, 1) := by decide +kernel
set_option maxRecDepth 20000 in
theorem ggX8_planPhotoSpacing_X8_isWithin : GoodIn wsX8_planPhotoSpacing wsX8_isWithin := goodIn_r _ [8] (by decide +kernel) (by decide +kernel)
set_option maxRecDepth 20000 in
theorem gX8_planPhotoSpacing_X8_isWithin : GoodIn wsX8_planPhotoSpacing (va_wsS RX8 58 yX8_isWithin wsX8_isWithin) := goodIn_app (goodIn_of _ (by decide +kernel)) ggX8_planPhotoSpacing_X8_isWithin
set_option maxRecDepth 20000 in
theorem ggX8_planPhotoSpacing_X3_search : GoodIn wsX8_planPhotoSpacing wsX3_search := goodIn_r _ [13, 14, 15, 16, 17, 18, 19, 20, 21, 22, 23, 24, 25, 26, 27, 28, 7, 29, 30, 31, 32, 33, 34, 35, 36, 37, 38, 39, 40, 41, 42, 43, 44, 45, 46, 47, 48, 49, 50, 51, 52, 53, 54, 55, 56, 57, 58, 59, 60, 61, 62, 63, 64, 65, 66, 67, 68, 69, 70, 71, 72, 73, 74, 75, 76, 77, 78, 79, 80, 81, 82, 83, 84, 85, 86, 87, 88, 89, 90, 91, 92, 93, 94, 95, 96, 97, 98, 110, 111, 112, 106, 107, 108, 109, 113, 114, 115, 116, 117, 118, 119, 120, 121, 122] (by decide +kernel) (by decide +kernel)
set_option maxRecDepth 20000 in
theorem gX8_planPhotoSpacing_X3_search : GoodIn wsX8_planPhotoSpacing (wsV RX8 166 RX3 yX3_search wsX3_search) := goodIn_app (goodIn_of _ (by decide +kernel)) ggX8_planPhotoSpacing_X3_search
theorem dX8_planPhotoSpacing_0 : decode cX8_planPhotoSpacing 0 = .ok (.iload_n 1, 1) := by decide +kernel
theorem dX8_planPhotoSpacing_1 : decode cX8_planPhotoSpacing 1 = .ok (.iconst 1, 1) := by decide +kernel
theorem dX8_planPhotoSpacing_2 : decode cX8_planPhotoSpacing 2 = .ok (.bipush 9, 2) := by decide +kernel
theorem dX8_planPhotoSpacing_4 : decode cX8_planPhotoSpacing 4 = .ok (.invokestatic 58, 3) := by decide +kernel
theorem dX8_planPhotoSpacing_7 : decode cX8_planPhotoSpacing 7 = .ok (.ifCond .ne 6, 3) := by decide +kernel
theorem dX8_planPhotoSpacing_10 : decode cX8_planPhotoSpacing 10 = .ok (.bipush (-4), 2) := by decide +kernel
theorem dX8_planPhotoSpacing_12 : decode cX8_planPhotoSpacing 12 = .ok (.ireturn, 1) := by decide +kernel
theorem dX8_planPhotoSpacing_13 : decode cX8_planPhotoSpacing 13 = .ok (.aload_n 0, 1) := by decide +kernel
theorem dX8_planPhotoSpacing_14 : decode cX8_planPhotoSpacing 14 = .ok (.getfield 47, 3) := by decide +kernel
theorem dX8_planPhotoSpacing_17 : decode cX8_planPhotoSpacing 17 = .ok (.aload_n 0, 1) := by decide +kernel
theorem dX8_planPhotoSpacing_18 : decode cX8_planPhotoSpacing 18 = .ok (.getfield 10, 3) := by decide +kernel
theorem dX8_planPhotoSpacing_21 : decode cX8_planPhotoSpacing 21 = .ok (.aload_n 0, 1) := by decide +kernel
theorem dX8_planPhotoSpacing_22 : decode cX8_planPhotoSpacing 22 = .ok (.getfield 19, 3) := by decide +kernel
theorem dX8_planPhotoSpacing_25 : decode cX8_planPhotoSpacing 25 = .ok (.iload_n 1, 1) := by decide +kernel
theorem dX8_planPhotoSpacing_26 : decode cX8_planPhotoSpacing 26 = .ok (.invokevirtual 166, 3) := by decide +kernel
theorem dX8_planPhotoSpacing_29 : decode cX8_planPhotoSpacing 29 = .ok (.ifCond .eq 13, 3) := by decide +kernel
theorem dX8_planPhotoSpacing_32 : decode cX8_planPhotoSpacing 32 = .ok (.aload_n 0, 1) := by decide +kernel
theorem dX8_planPhotoSpacing_33 : decode cX8_planPhotoSpacing 33 = .ok (.getfield 47, 3) := by decide +kernel
theorem dX8_planPhotoSpacing_36 : decode cX8_planPhotoSpacing 36 = .ok (.getfield 175, 3) := by decide +kernel
theorem dX8_planPhotoSpacing_39 : decode cX8_planPhotoSpacing 39 = .ok (.goto 5, 3) := by decide +kernel
theorem dX8_planPhotoSpacing_42 : decode cX8_planPhotoSpacing 42 = .ok (.bipush (-6), 2) := by decide +kernel
theorem dX8_planPhotoSpacing_44 : decode cX8_planPhotoSpacing 44 = .ok (.ireturn, 1) := by decide +kernel
set_option maxRecDepth 20000 in
theorem ggX8_applyPlan_X8_isWithin : GoodIn wsX8_applyPlan wsX8_isWithin := goodIn_r _ [11] (by decide +kernel) (by decide +kernel)
set_option maxRecDepth 20000 in
theorem gX8_applyPlan_X8_isWithin : GoodIn wsX8_applyPlan (va_wsS RX8 58 yX8_isWithin wsX8_isWithin) := goodIn_app (goodIn_of _ (by decide +kernel)) ggX8_applyPlan_X8_isWithin
set_option maxRecDepth 20000 in
theorem ggX8_applyPlan_X3_search : GoodIn wsX8_applyPlan wsX3_search := goodIn_r _ [16, 17, 18, 19, 20, 21, 22, 23, 24, 25, 26, 27, 28, 29, 30, 31, 10, 32, 33, 34, 35, 36, 37, 38, 39, 40, 41, 42, 43, 44, 45, 46, 47, 48, 49, 50, 51, 52, 53, 54, 55, 56, 57, 58, 59, 60, 61, 62, 63, 64, 65, 66, 67, 68, 69, 70, 71, 72, 73, 74, 75, 76, 77, 78, 79, 80, 81, 82, 83, 84, 85, 86, 87, 88, 89, 90, 91, 92, 93, 94, 95, 96, 97, 98, 99, 100, 101, 116, 117, 118, 110, 111, 112, 113, 114, 115, 119, 120, 121, 122, 123, 124, 125, 126] (by decide +kernel) (by decide +kernel)
set_option maxRecDepth 20000 in
theorem gX8_applyPlan_X3_search : GoodIn wsX8_applyPlan (wsV RX8 166 RX3 yX3_search wsX3_search) := goodIn_app (goodIn_of _ (by decide +kernel)) ggX8_applyPlan_X3_search
set_option maxRecDepth 20000 in
theorem ggX8_applyPlan_X6_layOut : GoodIn wsX8_applyPlan wsX6_layOut := goodIn_r _ [27, 28, 29, 30, 31, 10, 32, 33, 34, 35, 26, 36, 37, 38, 39, 40, 41, 42, 43, 44, 45, 46, 47, 48, 49, 50, 116, 117, 118, 114, 115, 119, 120, 121, 122] (by decide +kernel) (by decide +kernel)
set_option maxRecDepth 20000 in
theorem gX8_applyPlan_X6_layOut : GoodIn wsX8_applyPlan (wsV RX8 178 RX6 yX6_layOut wsX6_layOut) := goodIn_app (goodIn_of _ (by decide +kernel)) ggX8_applyPlan_X6_layOut
theorem dX8_applyPlan_0 : decode cX8_applyPlan 0 = .ok (.iload_n 1, 1) := by decide +kernel
theorem dX8_applyPlan_1 : decode cX8_applyPlan 1 = .ok (.iconst 1, 1) := by decide +kernel
theorem dX8_applyPlan_2 : decode cX8_applyPlan 2 = .ok (.bipush 9, 2) := by decide +kernel
theorem dX8_applyPlan_4 : decode cX8_applyPlan 4 = .ok (.invokestatic 58, 3) := by decide +kernel
theorem dX8_applyPlan_7 : decode cX8_applyPlan 7 = .ok (.ifCond .ne 6, 3) := by decide +kernel
theorem dX8_applyPlan_10 : decode cX8_applyPlan 10 = .ok (.bipush (-4), 2) := by decide +kernel
theorem dX8_applyPlan_12 : decode cX8_applyPlan 12 = .ok (.ireturn, 1) := by decide +kernel
theorem dX8_applyPlan_13 : decode cX8_applyPlan 13 = .ok (.aload_n 0, 1) := by decide +kernel
theorem dX8_applyPlan_14 : decode cX8_applyPlan 14 = .ok (.getfield 47, 3) := by decide +kernel
theorem dX8_applyPlan_17 : decode cX8_applyPlan 17 = .ok (.aload_n 0, 1) := by decide +kernel
theorem dX8_applyPlan_18 : decode cX8_applyPlan 18 = .ok (.getfield 10, 3) := by decide +kernel
theorem dX8_applyPlan_21 : decode cX8_applyPlan 21 = .ok (.aload_n 0, 1) := by decide +kernel
theorem dX8_applyPlan_22 : decode cX8_applyPlan 22 = .ok (.getfield 19, 3) := by decide +kernel
theorem dX8_applyPlan_25 : decode cX8_applyPlan 25 = .ok (.iload_n 1, 1) := by decide +kernel
theorem dX8_applyPlan_26 : decode cX8_applyPlan 26 = .ok (.invokevirtual 166, 3) := by decide +kernel
theorem dX8_applyPlan_29 : decode cX8_applyPlan 29 = .ok (.ifCond .ne 6, 3) := by decide +kernel
theorem dX8_applyPlan_32 : decode cX8_applyPlan 32 = .ok (.bipush (-6), 2) := by decide +kernel
theorem dX8_applyPlan_34 : decode cX8_applyPlan 34 = .ok (.ireturn, 1) := by decide +kernel
theorem dX8_applyPlan_35 : decode cX8_applyPlan 35 = .ok (.aload_n 0, 1) := by decide +kernel
theorem dX8_applyPlan_36 : decode cX8_applyPlan 36 = .ok (.getfield 33, 3) := by decide +kernel
theorem dX8_applyPlan_39 : decode cX8_applyPlan 39 = .ok (.aload_n 0, 1) := by decide +kernel
theorem dX8_applyPlan_40 : decode cX8_applyPlan 40 = .ok (.getfield 10, 3) := by decide +kernel
theorem dX8_applyPlan_43 : decode cX8_applyPlan 43 = .ok (.aload_n 0, 1) := by decide +kernel
theorem dX8_applyPlan_44 : decode cX8_applyPlan 44 = .ok (.getfield 47, 3) := by decide +kernel
theorem dX8_applyPlan_47 : decode cX8_applyPlan 47 = .ok (.getfield 172, 3) := by decide +kernel
theorem dX8_applyPlan_50 : decode cX8_applyPlan 50 = .ok (.aload_n 0, 1) := by decide +kernel
theorem dX8_applyPlan_51 : decode cX8_applyPlan 51 = .ok (.getfield 47, 3) := by decide +kernel
theorem dX8_applyPlan_54 : decode cX8_applyPlan 54 = .ok (.getfield 175, 3) := by decide +kernel
theorem dX8_applyPlan_57 : decode cX8_applyPlan 57 = .ok (.invokevirtual 178, 3) := by decide +kernel
theorem dX8_applyPlan_60 : decode cX8_applyPlan 60 = .ok (.pop, 1) := by decide +kernel
theorem dX8_applyPlan_61 : decode cX8_applyPlan 61 = .ok (.aload_n 0, 1) := by decide +kernel
theorem dX8_applyPlan_62 : decode cX8_applyPlan 62 = .ok (.getfield 33, 3) := by decide +kernel
theorem dX8_applyPlan_65 : decode cX8_applyPlan 65 = .ok (.getfield 118, 3) := by decide +kernel
theorem dX8_applyPlan_68 : decode cX8_applyPlan 68 = .ok (.ireturn, 1) := by decide +kernel
set_option maxRecDepth 20000 in
theorem ggX8_stripTime_X6_find : GoodIn wsX8_stripTime wsX6_find := goodIn_r _ [7, 8, 9, 29, 30] (by decide +kernel) (by decide +kernel)
set_option maxRecDepth 20000 in
theorem gX8_stripTime_X6_find : GoodIn wsX8_stripTime (wsV RX8 110 RX6 yX6_find wsX6_find) := goodIn_app (goodIn_of _ (by decide +kernel)) ggX8_stripTime_X6_find
set_option maxRecDepth 20000 in
theorem ggX8_stripTime_X0_flightTime : GoodIn wsX8_stripTime wsX0_flightTime := goodIn_r _ [14, 15, 16, 17, 18, 19, 20, 21, 31, 32, 33, 34, 35, 36, 37] (by decide +kernel) (by decide +kernel)
set_option maxRecDepth 20000 in
theorem gX8_stripTime_X0_flightTime : GoodIn wsX8_stripTime (wsV RX8 182 RX0 yX0_flightTime wsX0_flightTime) := goodIn_app (goodIn_of _ (by decide +kernel)) ggX8_stripTime_X0_flightTime
theorem dX8_stripTime_0 : decode cX8_stripTime 0 = .ok (.aload_n 0, 1) := by decide +kernel
theorem dX8_stripTime_1 : decode cX8_stripTime 1 = .ok (.getfield 33, 3) := by decide +kernel
theorem dX8_stripTime_4 : decode cX8_stripTime 4 = .ok (.iload_n 1, 1) := by decide +kernel
theorem dX8_stripTime_5 : decode cX8_stripTime 5 = .ok (.invokevirtual 110, 3) := by decide +kernel
theorem dX8_stripTime_8 : decode cX8_stripTime 8 = .ok (.astore_n 3, 1) := by decide +kernel
theorem dX8_stripTime_9 : decode cX8_stripTime 9 = .ok (.aload_n 3, 1) := by decide +kernel
theorem dX8_stripTime_10 : decode cX8_stripTime 10 = .ok (.ifnonnull 6, 3) := by decide +kernel
theorem dX8_stripTime_13 : decode cX8_stripTime 13 = .ok (.bipush (-2), 2) := by decide +kernel
theorem dX8_stripTime_15 : decode cX8_stripTime 15 = .ok (.ireturn, 1) := by decide +kernel
theorem dX8_stripTime_16 : decode cX8_stripTime 16 = .ok (.aload_n 0, 1) := by decide +kernel
theorem dX8_stripTime_17 : decode cX8_stripTime 17 = .ok (.getfield 26, 3) := by decide +kernel
theorem dX8_stripTime_20 : decode cX8_stripTime 20 = .ok (.aload_n 3, 1) := by decide +kernel
theorem dX8_stripTime_21 : decode cX8_stripTime 21 = .ok (.iload_n 2, 1) := by decide +kernel
theorem dX8_stripTime_22 : decode cX8_stripTime 22 = .ok (.invokevirtual 182, 3) := by decide +kernel
theorem dX8_stripTime_25 : decode cX8_stripTime 25 = .ok (.ireturn, 1) := by decide +kernel
set_option maxRecDepth 20000 in
theorem ggX8_routeTime_X7_contains : GoodIn wsX8_routeTime wsX7_contains := goodIn_r _ [9, 10, 11, 83, 84, 85] (by decide +kernel) (by decide +kernel)
set_option maxRecDepth 20000 in
theorem gX8_routeTime_X7_contains : GoodIn wsX8_routeTime (wsV RX8 69 RX7 yX7_contains wsX7_contains) := goodIn_app (goodIn_of _ (by decide +kernel)) ggX8_routeTime_X7_contains
set_option maxRecDepth 20000 in
theorem ggX8_routeTime_X4_fastestTime : GoodIn wsX8_routeTime wsX4_fastestTime := goodIn_r _ [16, 17, 18, 19, 20, 21, 15, 22, 23, 24, 25, 26, 27, 28, 29, 30, 31, 32, 33, 34, 35, 36, 37, 38, 39, 40, 41, 42, 43, 44, 45, 46, 47, 48, 49, 50, 51, 52, 53, 54, 55, 56, 57, 58, 59, 60, 61, 62, 63, 64, 65, 66, 67, 68, 69, 70, 71, 72, 73, 74, 75, 86, 87, 88, 89, 90, 91, 92, 93, 94, 95, 96, 97] (by decide +kernel) (by decide +kernel)
set_option maxRecDepth 20000 in
theorem gX8_routeTime_X4_fastestTime : GoodIn wsX8_routeTime (wsV RX8 186 RX4 yX4_fastestTime wsX4_fastestTime) := goodIn_app (goodIn_of _ (by decide +kernel)) ggX8_routeTime_X4_fastestTime
theorem dX8_routeTime_0 : decode cX8_routeTime 0 = .ok (.aload_n 0, 1) := by decide +kernel
theorem dX8_routeTime_1 : decode cX8_routeTime 1 = .ok (.getfield 10, 3) := by decide +kernel
theorem dX8_routeTime_4 : decode cX8_routeTime 4 = .ok (.iload_n 1, 1) := by decide +kernel
theorem dX8_routeTime_5 : decode cX8_routeTime 5 = .ok (.iload_n 2, 1) := by decide +kernel
theorem dX8_routeTime_6 : decode cX8_routeTime 6 = .ok (.invokevirtual 69, 3) := by decide +kernel
theorem dX8_routeTime_9 : decode cX8_routeTime 9 = .ok (.ifCond .ne 5, 3) := by decide +kernel
theorem dX8_routeTime_12 : decode cX8_routeTime 12 = .ok (.iconst (-1), 1) := by decide +kernel
theorem dX8_routeTime_13 : decode cX8_routeTime 13 = .ok (.ireturn, 1) := by decide +kernel
theorem dX8_routeTime_14 : decode cX8_routeTime 14 = .ok (.aload_n 0, 1) := by decide +kernel
theorem dX8_routeTime_15 : decode cX8_routeTime 15 = .ok (.getfield 54, 3) := by decide +kernel
theorem dX8_routeTime_18 : decode cX8_routeTime 18 = .ok (.aload_n 0, 1) := by decide +kernel
theorem dX8_routeTime_19 : decode cX8_routeTime 19 = .ok (.getfield 33, 3) := by decide +kernel
theorem dX8_routeTime_22 : decode cX8_routeTime 22 = .ok (.aload_n 0, 1) := by decide +kernel
theorem dX8_routeTime_23 : decode cX8_routeTime 23 = .ok (.getfield 26, 3) := by decide +kernel
theorem dX8_routeTime_26 : decode cX8_routeTime 26 = .ok (.iload_n 1, 1) := by decide +kernel
theorem dX8_routeTime_27 : decode cX8_routeTime 27 = .ok (.iload_n 2, 1) := by decide +kernel
theorem dX8_routeTime_28 : decode cX8_routeTime 28 = .ok (.invokevirtual 186, 3) := by decide +kernel
theorem dX8_routeTime_31 : decode cX8_routeTime 31 = .ok (.ireturn, 1) := by decide +kernel
set_option maxRecDepth 20000 in
theorem ggX8_routeStep_X7_contains : GoodIn wsX8_routeStep wsX7_contains := goodIn_r _ [10, 11, 12, 86, 87, 88] (by decide +kernel) (by decide +kernel)
set_option maxRecDepth 20000 in
theorem gX8_routeStep_X7_contains : GoodIn wsX8_routeStep (wsV RX8 69 RX7 yX7_contains wsX7_contains) := goodIn_app (goodIn_of _ (by decide +kernel)) ggX8_routeStep_X7_contains
set_option maxRecDepth 20000 in
theorem ggX8_routeStep_X4_fastestStep : GoodIn wsX8_routeStep wsX4_fastestStep := goodIn_r _ [17, 18, 19, 20, 21, 22, 23, 16, 24, 25, 26, 27, 28, 29, 30, 31, 32, 33, 34, 35, 36, 37, 38, 39, 40, 41, 42, 43, 44, 45, 46, 47, 48, 49, 50, 51, 52, 53, 54, 55, 56, 57, 58, 59, 60, 61, 62, 63, 64, 65, 66, 67, 68, 69, 70, 71, 72, 73, 74, 75, 76, 84, 85, 89, 90, 91, 92, 93, 94, 95, 96, 97, 98] (by decide +kernel) (by decide +kernel)
set_option maxRecDepth 20000 in
theorem gX8_routeStep_X4_fastestStep : GoodIn wsX8_routeStep (wsV RX8 190 RX4 yX4_fastestStep wsX4_fastestStep) := goodIn_app (goodIn_of _ (by decide +kernel)) ggX8_routeStep_X4_fastestStep
theorem dX8_routeStep_0 : decode cX8_routeStep 0 = .ok (.aload_n 0, 1) := by decide +kernel
theorem dX8_routeStep_1 : decode cX8_routeStep 1 = .ok (.getfield 10, 3) := by decide +kernel
theorem dX8_routeStep_4 : decode cX8_routeStep 4 = .ok (.iload_n 1, 1) := by decide +kernel
theorem dX8_routeStep_5 : decode cX8_routeStep 5 = .ok (.iload_n 2, 1) := by decide +kernel
theorem dX8_routeStep_6 : decode cX8_routeStep 6 = .ok (.invokevirtual 69, 3) := by decide +kernel
theorem dX8_routeStep_9 : decode cX8_routeStep 9 = .ok (.ifCond .ne 5, 3) := by decide +kernel
theorem dX8_routeStep_12 : decode cX8_routeStep 12 = .ok (.iconst (-1), 1) := by decide +kernel
theorem dX8_routeStep_13 : decode cX8_routeStep 13 = .ok (.ireturn, 1) := by decide +kernel
theorem dX8_routeStep_14 : decode cX8_routeStep 14 = .ok (.iload_n 3, 1) := by decide +kernel
theorem dX8_routeStep_15 : decode cX8_routeStep 15 = .ok (.ifCond .ge 6, 3) := by decide +kernel
theorem dX8_routeStep_18 : decode cX8_routeStep 18 = .ok (.bipush (-4), 2) := by decide +kernel
theorem dX8_routeStep_20 : decode cX8_routeStep 20 = .ok (.ireturn, 1) := by decide +kernel
theorem dX8_routeStep_21 : decode cX8_routeStep 21 = .ok (.iload_n 3, 1) := by decide +kernel
theorem dX8_routeStep_22 : decode cX8_routeStep 22 = .ok (.aload_n 0, 1) := by decide +kernel
theorem dX8_routeStep_23 : decode cX8_routeStep 23 = .ok (.getfield 33, 3) := by decide +kernel
theorem dX8_routeStep_26 : decode cX8_routeStep 26 = .ok (.getfield 118, 3) := by decide +kernel
theorem dX8_routeStep_29 : decode cX8_routeStep 29 = .ok (.if_icmp .lt 6, 3) := by decide +kernel
theorem dX8_routeStep_32 : decode cX8_routeStep 32 = .ok (.bipush (-6), 2) := by decide +kernel
theorem dX8_routeStep_34 : decode cX8_routeStep 34 = .ok (.ireturn, 1) := by decide +kernel
theorem dX8_routeStep_35 : decode cX8_routeStep 35 = .ok (.aload_n 0, 1) := by decide +kernel
theorem dX8_routeStep_36 : decode cX8_routeStep 36 = .ok (.getfield 54, 3) := by decide +kernel
theorem dX8_routeStep_39 : decode cX8_routeStep 39 = .ok (.aload_n 0, 1) := by decide +kernel
theorem dX8_routeStep_40 : decode cX8_routeStep 40 = .ok (.getfield 33, 3) := by decide +kernel
theorem dX8_routeStep_43 : decode cX8_routeStep 43 = .ok (.aload_n 0, 1) := by decide +kernel
theorem dX8_routeStep_44 : decode cX8_routeStep 44 = .ok (.getfield 26, 3) := by decide +kernel
theorem dX8_routeStep_47 : decode cX8_routeStep 47 = .ok (.iload_n 1, 1) := by decide +kernel
theorem dX8_routeStep_48 : decode cX8_routeStep 48 = .ok (.iload_n 2, 1) := by decide +kernel
theorem dX8_routeStep_49 : decode cX8_routeStep 49 = .ok (.iload_n 3, 1) := by decide +kernel
theorem dX8_routeStep_50 : decode cX8_routeStep 50 = .ok (.invokevirtual 190, 3) := by decide +kernel
theorem dX8_routeStep_53 : decode cX8_routeStep 53 = .ok (.ireturn, 1) := by decide +kernel
theorem dX8_isWithin_0 : decode cX8_isWithin 0 = .ok (.iload_n 0, 1) := by decide +kernel
theorem dX8_isWithin_1 : decode cX8_isWithin 1 = .ok (.iload_n 1, 1) := by decide +kernel
theorem dX8_isWithin_2 : decode cX8_isWithin 2 = .ok (.if_icmp .lt 12, 3) := by decide +kernel
theorem dX8_isWithin_5 : decode cX8_isWithin 5 = .ok (.iload_n 0, 1) := by decide +kernel
theorem dX8_isWithin_6 : decode cX8_isWithin 6 = .ok (.iload_n 2, 1) := by decide +kernel
theorem dX8_isWithin_7 : decode cX8_isWithin 7 = .ok (.if_icmp .gt 7, 3) := by decide +kernel
theorem dX8_isWithin_10 : decode cX8_isWithin 10 = .ok (.iconst 1, 1) := by decide +kernel
theorem dX8_isWithin_11 : decode cX8_isWithin 11 = .ok (.goto 4, 3) := by decide +kernel
theorem dX8_isWithin_14 : decode cX8_isWithin 14 = .ok (.iconst 0, 1) := by decide +kernel
theorem dX8_isWithin_15 : decode cX8_isWithin 15 = .ok (.ireturn, 1) := by decide +kernel
theorem dX8_quotient_0 : decode cX8_quotient 0 = .ok (.iload_n 1, 1) := by decide +kernel
theorem dX8_quotient_1 : decode cX8_quotient 1 = .ok (.ifCond .le 9, 3) := by decide +kernel
theorem dX8_quotient_4 : decode cX8_quotient 4 = .ok (.iload_n 0, 1) := by decide +kernel
theorem dX8_quotient_5 : decode cX8_quotient 5 = .ok (.iload_n 1, 1) := by decide +kernel
theorem dX8_quotient_6 : decode cX8_quotient 6 = .ok (.idiv, 1) := by decide +kernel
theorem dX8_quotient_7 : decode cX8_quotient 7 = .ok (.goto 4, 3) := by decide +kernel
theorem dX8_quotient_10 : decode cX8_quotient 10 = .ok (.iconst 0, 1) := by decide +kernel
theorem dX8_quotient_11 : decode cX8_quotient 11 = .ok (.ireturn, 1) := by decide +kernel
theorem dX9_init_0 : decode cX9_init 0 = .ok (.aload_n 0, 1) := by decide +kernel
theorem dX9_init_1 : decode cX9_init 1 = .ok (.invokespecial 1, 3) := by decide +kernel
theorem dX9_init_4 : decode cX9_init 4 = .ok (.aload_n 0, 1) := by decide +kernel
theorem dX9_init_5 : decode cX9_init 5 = .ok (.sipush 1000, 3) := by decide +kernel
theorem dX9_init_8 : decode cX9_init 8 = .ok (.putfield 7, 3) := by decide +kernel
theorem dX9_init_11 : decode cX9_init 11 = .ok (.aload_n 0, 1) := by decide +kernel
theorem dX9_init_12 : decode cX9_init 12 = .ok (.iconst 3, 1) := by decide +kernel
theorem dX9_init_13 : decode cX9_init 13 = .ok (.putfield 13, 3) := by decide +kernel
theorem dX9_init_16 : decode cX9_init 16 = .ok (.aload_n 0, 1) := by decide +kernel
theorem dX9_init_17 : decode cX9_init 17 = .ok (.iconst 2, 1) := by decide +kernel
theorem dX9_init_18 : decode cX9_init 18 = .ok (.putfield 16, 3) := by decide +kernel
theorem dX9_init_21 : decode cX9_init 21 = .ok (.aload_n 0, 1) := by decide +kernel
theorem dX9_init_22 : decode cX9_init 22 = .ok (.bipush 100, 2) := by decide +kernel
theorem dX9_init_24 : decode cX9_init 24 = .ok (.putfield 19, 3) := by decide +kernel
theorem dX9_init_27 : decode cX9_init 27 = .ok (.aload_n 0, 1) := by decide +kernel
theorem dX9_init_28 : decode cX9_init 28 = .ok (.bipush 60, 2) := by decide +kernel
theorem dX9_init_30 : decode cX9_init 30 = .ok (.putfield 22, 3) := by decide +kernel
theorem dX9_init_33 : decode cX9_init 33 = .ok (.aload_n 0, 1) := by decide +kernel
theorem dX9_init_34 : decode cX9_init 34 = .ok (.sipush 160, 3) := by decide +kernel
theorem dX9_init_37 : decode cX9_init 37 = .ok (.newarray .int, 2) := by decide +kernel
theorem dX9_init_39 : decode cX9_init 39 = .ok (.putfield 25, 3) := by decide +kernel
theorem dX9_init_42 : decode cX9_init 42 = .ok (.aload_n 0, 1) := by decide +kernel
theorem dX9_init_43 : decode cX9_init 43 = .ok (.bipush 8, 2) := by decide +kernel
theorem dX9_init_45 : decode cX9_init 45 = .ok (.newarray .int, 2) := by decide +kernel
theorem dX9_init_47 : decode cX9_init 47 = .ok (.putfield 29, 3) := by decide +kernel
theorem dX9_init_50 : decode cX9_init 50 = .ok (.aload_n 0, 1) := by decide +kernel
theorem dX9_init_51 : decode cX9_init 51 = .ok (.bipush 8, 2) := by decide +kernel
theorem dX9_init_53 : decode cX9_init 53 = .ok (.newarray .int, 2) := by decide +kernel
theorem dX9_init_55 : decode cX9_init 55 = .ok (.putfield 32, 3) := by decide +kernel
theorem dX9_init_58 : decode cX9_init 58 = .ok (.aload_n 0, 1) := by decide +kernel
theorem dX9_init_59 : decode cX9_init 59 = .ok (.bipush 8, 2) := by decide +kernel
theorem dX9_init_61 : decode cX9_init 61 = .ok (.newarray .int, 2) := by decide +kernel
theorem dX9_init_63 : decode cX9_init 63 = .ok (.putfield 35, 3) := by decide +kernel
theorem dX9_init_66 : decode cX9_init 66 = .ok (.aload_n 0, 1) := by decide +kernel
theorem dX9_init_67 : decode cX9_init 67 = .ok (.bipush 8, 2) := by decide +kernel
theorem dX9_init_69 : decode cX9_init 69 = .ok (.newarray .int, 2) := by decide +kernel
theorem dX9_init_71 : decode cX9_init 71 = .ok (.putfield 38, 3) := by decide +kernel
theorem dX9_init_74 : decode cX9_init 74 = .ok (.aload_n 0, 1) := by decide +kernel
theorem dX9_init_75 : decode cX9_init 75 = .ok (.sipush 25600, 3) := by decide +kernel
theorem dX9_init_78 : decode cX9_init 78 = .ok (.newarray .boolean, 2) := by decide +kernel
theorem dX9_init_80 : decode cX9_init 80 = .ok (.putfield 41, 3) := by decide +kernel
theorem dX9_init_83 : decode cX9_init 83 = .ok (.aload_n 0, 1) := by decide +kernel
theorem dX9_init_84 : decode cX9_init 84 = .ok (.sipush 4096, 3) := by decide +kernel
theorem dX9_init_87 : decode cX9_init 87 = .ok (.newarray .int, 2) := by decide +kernel
theorem dX9_init_89 : decode cX9_init 89 = .ok (.putfield 45, 3) := by decide +kernel
theorem dX9_init_92 : decode cX9_init 92 = .ok (.aload_n 0, 1) := by decide +kernel
theorem dX9_init_93 : decode cX9_init 93 = .ok (.bipush 6, 2) := by decide +kernel
theorem dX9_init_95 : decode cX9_init 95 = .ok (.putfield 48, 3) := by decide +kernel
theorem dX9_init_98 : decode cX9_init 98 = .ok (.aload_n 0, 1) := by decide +kernel
theorem dX9_init_99 : decode cX9_init 99 = .ok (.bipush 10, 2) := by decide +kernel
theorem dX9_init_101 : decode cX9_init 101 = .ok (.putfield 51, 3) := by decide +kernel
theorem dX9_init_104 : decode cX9_init 104 = .ok (.return_, 1) := by decide +kernel
theorem dX9_isBetween_0 : decode cX9_isBetween 0 = .ok (.iload_n 0, 1) := by decide +kernel
theorem dX9_isBetween_1 : decode cX9_isBetween 1 = .ok (.iload_n 1, 1) := by decide +kernel
theorem dX9_isBetween_2 : decode cX9_isBetween 2 = .ok (.if_icmp .lt 12, 3) := by decide +kernel
theorem dX9_isBetween_5 : decode cX9_isBetween 5 = .ok (.iload_n 0, 1) := by decide +kernel
theorem dX9_isBetween_6 : decode cX9_isBetween 6 = .ok (.iload_n 2, 1) := by decide +kernel
theorem dX9_isBetween_7 : decode cX9_isBetween 7 = .ok (.if_icmp .gt 7, 3) := by decide +kernel
theorem dX9_isBetween_10 : decode cX9_isBetween 10 = .ok (.iconst 1, 1) := by decide +kernel
theorem dX9_isBetween_11 : decode cX9_isBetween 11 = .ok (.goto 4, 3) := by decide +kernel
theorem dX9_isBetween_14 : decode cX9_isBetween 14 = .ok (.iconst 0, 1) := by decide +kernel
theorem dX9_isBetween_15 : decode cX9_isBetween 15 = .ok (.ireturn, 1) := by decide +kernel
theorem dX9_size_0 : decode cX9_size 0 = .ok (.iload_n 0, 1) := by decide +kernel
theorem dX9_size_1 : decode cX9_size 1 = .ok (.ifCond .ge 8, 3) := by decide +kernel
theorem dX9_size_4 : decode cX9_size 4 = .ok (.iload_n 0, 1) := by decide +kernel
theorem dX9_size_5 : decode cX9_size 5 = .ok (.ineg, 1) := by decide +kernel
theorem dX9_size_6 : decode cX9_size 6 = .ok (.goto 4, 3) := by decide +kernel
theorem dX9_size_9 : decode cX9_size 9 = .ok (.iload_n 0, 1) := by decide +kernel
theorem dX9_size_10 : decode cX9_size 10 = .ok (.ireturn, 1) := by decide +kernel
set_option maxRecDepth 20000 in
theorem ggX9_isCell_X9_isBetween : GoodIn wsX9_isCell wsX9_isBetween := goodIn_r _ [6] (by decide +kernel) (by decide +kernel)
set_option maxRecDepth 20000 in
theorem gX9_isCell_X9_isBetween : GoodIn wsX9_isCell (va_wsS RX9 54 yX9_isBetween wsX9_isBetween) := goodIn_app (goodIn_of _ (by decide +kernel)) ggX9_isCell_X9_isBetween
theorem dX9_isCell_0 : decode cX9_isCell 0 = .ok (.iload_n 1, 1) := by decide +kernel
theorem dX9_isCell_1 : decode cX9_isCell 1 = .ok (.iconst 0, 1) := by decide +kernel
theorem dX9_isCell_2 : decode cX9_isCell 2 = .ok (.aload_n 0, 1) := by decide +kernel
theorem dX9_isCell_3 : decode cX9_isCell 3 = .ok (.getfield 48, 3) := by decide +kernel
theorem dX9_isCell_6 : decode cX9_isCell 6 = .ok (.iconst 1, 1) := by decide +kernel
theorem dX9_isCell_7 : decode cX9_isCell 7 = .ok (.isub, 1) := by decide +kernel
theorem dX9_isCell_8 : decode cX9_isCell 8 = .ok (.invokestatic 54, 3) := by decide +kernel
theorem dX9_isCell_11 : decode cX9_isCell 11 = .ok (.ifCond .eq 21, 3) := by decide +kernel
theorem dX9_isCell_14 : decode cX9_isCell 14 = .ok (.iload_n 2, 1) := by decide +kernel
theorem dX9_isCell_15 : decode cX9_isCell 15 = .ok (.iconst 0, 1) := by decide +kernel
theorem dX9_isCell_16 : decode cX9_isCell 16 = .ok (.aload_n 0, 1) := by decide +kernel
theorem dX9_isCell_17 : decode cX9_isCell 17 = .ok (.getfield 51, 3) := by decide +kernel
theorem dX9_isCell_20 : decode cX9_isCell 20 = .ok (.iconst 1, 1) := by decide +kernel
theorem dX9_isCell_21 : decode cX9_isCell 21 = .ok (.isub, 1) := by decide +kernel
theorem dX9_isCell_22 : decode cX9_isCell 22 = .ok (.invokestatic 54, 3) := by decide +kernel
theorem dX9_isCell_25 : decode cX9_isCell 25 = .ok (.ifCond .eq 7, 3) := by decide +kernel
theorem dX9_isCell_28 : decode cX9_isCell 28 = .ok (.iconst 1, 1) := by decide +kernel
theorem dX9_isCell_29 : decode cX9_isCell 29 = .ok (.goto 4, 3) := by decide +kernel
theorem dX9_isCell_32 : decode cX9_isCell 32 = .ok (.iconst 0, 1) := by decide +kernel
theorem dX9_isCell_33 : decode cX9_isCell 33 = .ok (.ireturn, 1) := by decide +kernel
set_option maxRecDepth 20000 in
theorem ggX9_resize_X9_isBetween : GoodIn wsX9_resize wsX9_isBetween := goodIn_r _ [8] (by decide +kernel) (by decide +kernel)
set_option maxRecDepth 20000 in
theorem gX9_resize_X9_isBetween : GoodIn wsX9_resize (va_wsS RX9 54 yX9_isBetween wsX9_isBetween) := goodIn_app (goodIn_of _ (by decide +kernel)) ggX9_resize_X9_isBetween
theorem dX9_resize_0 : decode cX9_resize 0 = .ok (.iload_n 1, 1) := by decide +kernel
theorem dX9_resize_1 : decode cX9_resize 1 = .ok (.iconst 3, 1) := by decide +kernel
theorem dX9_resize_2 : decode cX9_resize 2 = .ok (.bipush 10, 2) := by decide +kernel
theorem dX9_resize_4 : decode cX9_resize 4 = .ok (.invokestatic 54, 3) := by decide +kernel
theorem dX9_resize_7 : decode cX9_resize 7 = .ok (.ifCond .eq 13, 3) := by decide +kernel
theorem dX9_resize_10 : decode cX9_resize 10 = .ok (.iload_n 2, 1) := by decide +kernel
theorem dX9_resize_11 : decode cX9_resize 11 = .ok (.iconst 4, 1) := by decide +kernel
theorem dX9_resize_12 : decode cX9_resize 12 = .ok (.bipush 16, 2) := by decide +kernel
theorem dX9_resize_14 : decode cX9_resize 14 = .ok (.invokestatic 54, 3) := by decide +kernel
theorem dX9_resize_17 : decode cX9_resize 17 = .ok (.ifCond .ne 6, 3) := by decide +kernel
theorem dX9_resize_20 : decode cX9_resize 20 = .ok (.bipush (-4), 2) := by decide +kernel
theorem dX9_resize_22 : decode cX9_resize 22 = .ok (.ireturn, 1) := by decide +kernel
theorem dX9_resize_23 : decode cX9_resize 23 = .ok (.aload_n 0, 1) := by decide +kernel
theorem dX9_resize_24 : decode cX9_resize 24 = .ok (.iload_n 1, 1) := by decide +kernel
theorem dX9_resize_25 : decode cX9_resize 25 = .ok (.putfield 48, 3) := by decide +kernel
theorem dX9_resize_28 : decode cX9_resize 28 = .ok (.aload_n 0, 1) := by decide +kernel
theorem dX9_resize_29 : decode cX9_resize 29 = .ok (.iload_n 2, 1) := by decide +kernel
theorem dX9_resize_30 : decode cX9_resize 30 = .ok (.putfield 51, 3) := by decide +kernel
theorem dX9_resize_33 : decode cX9_resize 33 = .ok (.aload_n 0, 1) := by decide +kernel
theorem dX9_resize_34 : decode cX9_resize 34 = .ok (.iconst 0, 1) := by decide +kernel
theorem dX9_resize_35 : decode cX9_resize 35 = .ok (.putfield 58, 3) := by decide +kernel
theorem dX9_resize_38 : decode cX9_resize 38 = .ok (.iconst 0, 1) := by decide +kernel
theorem dX9_resize_39 : decode cX9_resize 39 = .ok (.istore_n 3, 1) := by decide +kernel
theorem dX9_resize_40 : decode cX9_resize 40 = .ok (.iload_n 3, 1) := by decide +kernel
theorem dX9_resize_41 : decode cX9_resize 41 = .ok (.sipush 160, 3) := by decide +kernel
theorem dX9_resize_44 : decode cX9_resize 44 = .ok (.if_icmp .ge 16, 3) := by decide +kernel
theorem dX9_resize_47 : decode cX9_resize 47 = .ok (.aload_n 0, 1) := by decide +kernel
theorem dX9_resize_48 : decode cX9_resize 48 = .ok (.getfield 25, 3) := by decide +kernel
theorem dX9_resize_51 : decode cX9_resize 51 = .ok (.iload_n 3, 1) := by decide +kernel
theorem dX9_resize_52 : decode cX9_resize 52 = .ok (.iconst 0, 1) := by decide +kernel
theorem dX9_resize_53 : decode cX9_resize 53 = .ok (.iastore, 1) := by decide +kernel
theorem dX9_resize_54 : decode cX9_resize 54 = .ok (.iinc 3 1, 3) := by decide +kernel
theorem dX9_resize_57 : decode cX9_resize 57 = .ok (.goto (-17), 3) := by decide +kernel
theorem dX9_resize_60 : decode cX9_resize 60 = .ok (.aload_n 0, 1) := by decide +kernel
theorem dX9_resize_61 : decode cX9_resize 61 = .ok (.getfield 48, 3) := by decide +kernel
theorem dX9_resize_64 : decode cX9_resize 64 = .ok (.aload_n 0, 1) := by decide +kernel
theorem dX9_resize_65 : decode cX9_resize 65 = .ok (.getfield 51, 3) := by decide +kernel
theorem dX9_resize_68 : decode cX9_resize 68 = .ok (.imul, 1) := by decide +kernel
theorem dX9_resize_69 : decode cX9_resize 69 = .ok (.ireturn, 1) := by decide +kernel
set_option maxRecDepth 20000 in
theorem ggX9_setHeight_X9_isCell : GoodIn wsX9_setHeight wsX9_isCell := goodIn_r _ [6, 7, 8, 9, 10, 5, 11, 12, 13, 14, 15, 16, 17, 18, 19, 20, 21, 22, 23, 24, 25, 26, 27, 28, 29, 30, 31] (by decide +kernel) (by decide +kernel)
set_option maxRecDepth 20000 in
theorem gX9_setHeight_X9_isCell : GoodIn wsX9_setHeight (wsV RX9 61 RX9 yX9_isCell wsX9_isCell) := goodIn_app (goodIn_of _ (by decide +kernel)) ggX9_setHeight_X9_isCell
set_option maxRecDepth 20000 in
theorem ggX9_setHeight_X9_isBetween : GoodIn wsX9_setHeight wsX9_isBetween := goodIn_r _ [11] (by decide +kernel) (by decide +kernel)
set_option maxRecDepth 20000 in
theorem gX9_setHeight_X9_isBetween : GoodIn wsX9_setHeight (va_wsS RX9 54 yX9_isBetween wsX9_isBetween) := goodIn_app (goodIn_of _ (by decide +kernel)) ggX9_setHeight_X9_isBetween
end
section
theorem dX9_setHeight_0 : decode cX9_setHeight 0 = .ok (.aload_n 0, 1) := by decide +kernel
theorem dX9_setHeight_1 : decode cX9_setHeight 1 = .ok (.iload_n 1, 1) := by decide +kernel
theorem dX9_setHeight_2 : decode cX9_setHeight 2 = .ok (.iload_n 2, 1) := by decide +kernel
theorem dX9_setHeight_3 : decode cX9_setHeight 3 = .ok (.invokevirtual 61, 3) := by decide +kernel
theorem dX9_setHeight_6 : decode cX9_setHeight 6 = .ok (.ifCond .ne 5, 3) := by decide +kernel
theorem dX9_setHeight_9 : decode cX9_setHeight 9 = .ok (.iconst (-1), 1) := by decide +kernel
theorem dX9_setHeight_10 : decode cX9_setHeight 10 = .ok (.ireturn, 1) := by decide +kernel
theorem dX9_setHeight_11 : decode cX9_setHeight 11 = .ok (.iload_n 3, 1) := by decide +kernel
theorem dX9_setHeight_12 : decode cX9_setHeight 12 = .ok (.iconst 0, 1) := by decide +kernel
theorem dX9_setHeight_13 : decode cX9_setHeight 13 = .ok (.sipush 999, 3) := by decide +kernel
theorem dX9_setHeight_16 : decode cX9_setHeight 16 = .ok (.invokestatic 54, 3) := by decide +kernel
theorem dX9_setHeight_19 : decode cX9_setHeight 19 = .ok (.ifCond .ne 6, 3) := by decide +kernel
theorem dX9_setHeight_22 : decode cX9_setHeight 22 = .ok (.bipush (-4), 2) := by decide +kernel
theorem dX9_setHeight_24 : decode cX9_setHeight 24 = .ok (.ireturn, 1) := by decide +kernel
theorem dX9_setHeight_25 : decode cX9_setHeight 25 = .ok (.aload_n 0, 1) := by decide +kernel
theorem dX9_setHeight_26 : decode cX9_setHeight 26 = .ok (.getfield 25, 3) := by decide +kernel
theorem dX9_setHeight_29 : decode cX9_setHeight 29 = .ok (.bipush 16, 2) := by decide +kernel
theorem dX9_setHeight_31 : decode cX9_setHeight 31 = .ok (.iload_n 1, 1) := by decide +kernel
theorem dX9_setHeight_32 : decode cX9_setHeight 32 = .ok (.imul, 1) := by decide +kernel
theorem dX9_setHeight_33 : decode cX9_setHeight 33 = .ok (.iload_n 2, 1) := by decide +kernel
theorem dX9_setHeight_34 : decode cX9_setHeight 34 = .ok (.iadd, 1) := by decide +kernel
theorem dX9_setHeight_35 : decode cX9_setHeight 35 = .ok (.iaload, 1) := by decide +kernel
theorem dX9_setHeight_36 : decode cX9_setHeight 36 = .ok (.istore 4, 2) := by decide +kernel
theorem dX9_setHeight_38 : decode cX9_setHeight 38 = .ok (.aload_n 0, 1) := by decide +kernel
theorem dX9_setHeight_39 : decode cX9_setHeight 39 = .ok (.getfield 25, 3) := by decide +kernel
theorem dX9_setHeight_42 : decode cX9_setHeight 42 = .ok (.bipush 16, 2) := by decide +kernel
theorem dX9_setHeight_44 : decode cX9_setHeight 44 = .ok (.iload_n 1, 1) := by decide +kernel
theorem dX9_setHeight_45 : decode cX9_setHeight 45 = .ok (.imul, 1) := by decide +kernel
theorem dX9_setHeight_46 : decode cX9_setHeight 46 = .ok (.iload_n 2, 1) := by decide +kernel
theorem dX9_setHeight_47 : decode cX9_setHeight 47 = .ok (.iadd, 1) := by decide +kernel
theorem dX9_setHeight_48 : decode cX9_setHeight 48 = .ok (.iload_n 3, 1) := by decide +kernel
theorem dX9_setHeight_49 : decode cX9_setHeight 49 = .ok (.iastore, 1) := by decide +kernel
theorem dX9_setHeight_50 : decode cX9_setHeight 50 = .ok (.iload 4, 2) := by decide +kernel
theorem dX9_setHeight_52 : decode cX9_setHeight 52 = .ok (.ireturn, 1) := by decide +kernel
set_option maxRecDepth 20000 in
theorem ggX9_raiseHill_X9_isCell : GoodIn wsX9_raiseHill wsX9_isCell := goodIn_r _ [8, 1, 2, 9, 10, 7, 11, 15, 16, 17, 18, 19, 20, 21, 22, 23, 24, 25, 26, 27, 28, 29, 30, 31, 32, 33, 34] (by decide +kernel) (by decide +kernel)
set_option maxRecDepth 20000 in
theorem gX9_raiseHill_X9_isCell : GoodIn wsX9_raiseHill (wsV RX9 61 RX9 yX9_isCell wsX9_isCell) := goodIn_app (goodIn_of _ (by decide +kernel)) ggX9_raiseHill_X9_isCell
set_option maxRecDepth 20000 in
theorem ggX9_raiseHill_X9_isBetween : GoodIn wsX9_raiseHill wsX9_isBetween := goodIn_r _ [11] (by decide +kernel) (by decide +kernel)
set_option maxRecDepth 20000 in
theorem gX9_raiseHill_X9_isBetween : GoodIn wsX9_raiseHill (va_wsS RX9 54 yX9_isBetween wsX9_isBetween) := goodIn_app (goodIn_of _ (by decide +kernel)) ggX9_raiseHill_X9_isBetween
set_option maxRecDepth 20000 in
theorem ggX9_raiseHill_X9_size : GoodIn wsX9_raiseHill wsX9_size := goodIn_r _ [14] (by decide +kernel) (by decide +kernel)
set_option maxRecDepth 20000 in
theorem gX9_raiseHill_X9_size : GoodIn wsX9_raiseHill (va_wsS RX9 65 yX9_size wsX9_size) := goodIn_app (goodIn_of _ (by decide +kernel)) ggX9_raiseHill_X9_size
theorem dX9_raiseHill_0 : decode cX9_raiseHill 0 = .ok (.aload_n 0, 1) := by decide +kernel
theorem dX9_raiseHill_1 : decode cX9_raiseHill 1 = .ok (.iload_n 1, 1) := by decide +kernel
theorem dX9_raiseHill_2 : decode cX9_raiseHill 2 = .ok (.iload_n 2, 1) := by decide +kernel
theorem dX9_raiseHill_3 : decode cX9_raiseHill 3 = .ok (.invokevirtual 61, 3) := by decide +kernel
theorem dX9_raiseHill_6 : decode cX9_raiseHill 6 = .ok (.ifCond .ne 5, 3) := by decide +kernel
theorem dX9_raiseHill_9 : decode cX9_raiseHill 9 = .ok (.iconst (-1), 1) := by decide +kernel
theorem dX9_raiseHill_10 : decode cX9_raiseHill 10 = .ok (.ireturn, 1) := by decide +kernel
theorem dX9_raiseHill_11 : decode cX9_raiseHill 11 = .ok (.iload_n 3, 1) := by decide +kernel
theorem dX9_raiseHill_12 : decode cX9_raiseHill 12 = .ok (.iconst 0, 1) := by decide +kernel
theorem dX9_raiseHill_13 : decode cX9_raiseHill 13 = .ok (.iconst 5, 1) := by decide +kernel
theorem dX9_raiseHill_14 : decode cX9_raiseHill 14 = .ok (.invokestatic 54, 3) := by decide +kernel
theorem dX9_raiseHill_17 : decode cX9_raiseHill 17 = .ok (.ifCond .eq 15, 3) := by decide +kernel
theorem dX9_raiseHill_20 : decode cX9_raiseHill 20 = .ok (.iload 4, 2) := by decide +kernel
theorem dX9_raiseHill_22 : decode cX9_raiseHill 22 = .ok (.iconst 1, 1) := by decide +kernel
theorem dX9_raiseHill_23 : decode cX9_raiseHill 23 = .ok (.sipush 999, 3) := by decide +kernel
theorem dX9_raiseHill_26 : decode cX9_raiseHill 26 = .ok (.invokestatic 54, 3) := by decide +kernel
theorem dX9_raiseHill_29 : decode cX9_raiseHill 29 = .ok (.ifCond .ne 6, 3) := by decide +kernel
theorem dX9_raiseHill_32 : decode cX9_raiseHill 32 = .ok (.bipush (-4), 2) := by decide +kernel
theorem dX9_raiseHill_34 : decode cX9_raiseHill 34 = .ok (.ireturn, 1) := by decide +kernel
theorem dX9_raiseHill_35 : decode cX9_raiseHill 35 = .ok (.iconst 0, 1) := by decide +kernel
theorem dX9_raiseHill_36 : decode cX9_raiseHill 36 = .ok (.istore 5, 2) := by decide +kernel
theorem dX9_raiseHill_38 : decode cX9_raiseHill 38 = .ok (.iconst 0, 1) := by decide +kernel
theorem dX9_raiseHill_39 : decode cX9_raiseHill 39 = .ok (.istore 6, 2) := by decide +kernel
theorem dX9_raiseHill_41 : decode cX9_raiseHill 41 = .ok (.iload 6, 2) := by decide +kernel
theorem dX9_raiseHill_43 : decode cX9_raiseHill 43 = .ok (.aload_n 0, 1) := by decide +kernel
theorem dX9_raiseHill_44 : decode cX9_raiseHill 44 = .ok (.getfield 48, 3) := by decide +kernel
theorem dX9_raiseHill_47 : decode cX9_raiseHill 47 = .ok (.if_icmp .ge 159, 3) := by decide +kernel
theorem dX9_raiseHill_50 : decode cX9_raiseHill 50 = .ok (.iconst 0, 1) := by decide +kernel
theorem dX9_raiseHill_51 : decode cX9_raiseHill 51 = .ok (.istore 7, 2) := by decide +kernel
theorem dX9_raiseHill_53 : decode cX9_raiseHill 53 = .ok (.iload 7, 2) := by decide +kernel
theorem dX9_raiseHill_55 : decode cX9_raiseHill 55 = .ok (.aload_n 0, 1) := by decide +kernel
theorem dX9_raiseHill_56 : decode cX9_raiseHill 56 = .ok (.getfield 51, 3) := by decide +kernel
theorem dX9_raiseHill_59 : decode cX9_raiseHill 59 = .ok (.if_icmp .ge 141, 3) := by decide +kernel
theorem dX9_raiseHill_62 : decode cX9_raiseHill 62 = .ok (.iload 6, 2) := by decide +kernel
theorem dX9_raiseHill_64 : decode cX9_raiseHill 64 = .ok (.iload_n 1, 1) := by decide +kernel
theorem dX9_raiseHill_65 : decode cX9_raiseHill 65 = .ok (.isub, 1) := by decide +kernel
theorem dX9_raiseHill_66 : decode cX9_raiseHill 66 = .ok (.invokestatic 65, 3) := by decide +kernel
theorem dX9_raiseHill_69 : decode cX9_raiseHill 69 = .ok (.iload 7, 2) := by decide +kernel
theorem dX9_raiseHill_71 : decode cX9_raiseHill 71 = .ok (.iload_n 2, 1) := by decide +kernel
theorem dX9_raiseHill_72 : decode cX9_raiseHill 72 = .ok (.isub, 1) := by decide +kernel
theorem dX9_raiseHill_73 : decode cX9_raiseHill 73 = .ok (.invokestatic 65, 3) := by decide +kernel
theorem dX9_raiseHill_76 : decode cX9_raiseHill 76 = .ok (.if_icmp .le 13, 3) := by decide +kernel
theorem dX9_raiseHill_79 : decode cX9_raiseHill 79 = .ok (.iload 6, 2) := by decide +kernel
theorem dX9_raiseHill_81 : decode cX9_raiseHill 81 = .ok (.iload_n 1, 1) := by decide +kernel
theorem dX9_raiseHill_82 : decode cX9_raiseHill 82 = .ok (.isub, 1) := by decide +kernel
theorem dX9_raiseHill_83 : decode cX9_raiseHill 83 = .ok (.invokestatic 65, 3) := by decide +kernel
theorem dX9_raiseHill_86 : decode cX9_raiseHill 86 = .ok (.goto 10, 3) := by decide +kernel
theorem dX9_raiseHill_89 : decode cX9_raiseHill 89 = .ok (.iload 7, 2) := by decide +kernel
theorem dX9_raiseHill_91 : decode cX9_raiseHill 91 = .ok (.iload_n 2, 1) := by decide +kernel
theorem dX9_raiseHill_92 : decode cX9_raiseHill 92 = .ok (.isub, 1) := by decide +kernel
theorem dX9_raiseHill_93 : decode cX9_raiseHill 93 = .ok (.invokestatic 65, 3) := by decide +kernel
theorem dX9_raiseHill_96 : decode cX9_raiseHill 96 = .ok (.istore 8, 2) := by decide +kernel
theorem dX9_raiseHill_98 : decode cX9_raiseHill 98 = .ok (.iload 8, 2) := by decide +kernel
theorem dX9_raiseHill_100 : decode cX9_raiseHill 100 = .ok (.iload_n 3, 1) := by decide +kernel
theorem dX9_raiseHill_101 : decode cX9_raiseHill 101 = .ok (.if_icmp .gt 93, 3) := by decide +kernel
theorem dX9_raiseHill_104 : decode cX9_raiseHill 104 = .ok (.aload_n 0, 1) := by decide +kernel
theorem dX9_raiseHill_105 : decode cX9_raiseHill 105 = .ok (.getfield 25, 3) := by decide +kernel
theorem dX9_raiseHill_108 : decode cX9_raiseHill 108 = .ok (.bipush 16, 2) := by decide +kernel
theorem dX9_raiseHill_110 : decode cX9_raiseHill 110 = .ok (.iload 6, 2) := by decide +kernel
theorem dX9_raiseHill_112 : decode cX9_raiseHill 112 = .ok (.imul, 1) := by decide +kernel
theorem dX9_raiseHill_113 : decode cX9_raiseHill 113 = .ok (.iload 7, 2) := by decide +kernel
theorem dX9_raiseHill_115 : decode cX9_raiseHill 115 = .ok (.iadd, 1) := by decide +kernel
theorem dX9_raiseHill_116 : decode cX9_raiseHill 116 = .ok (.iaload, 1) := by decide +kernel
theorem dX9_raiseHill_117 : decode cX9_raiseHill 117 = .ok (.iload 4, 2) := by decide +kernel
theorem dX9_raiseHill_119 : decode cX9_raiseHill 119 = .ok (.iload_n 3, 1) := by decide +kernel
theorem dX9_raiseHill_120 : decode cX9_raiseHill 120 = .ok (.iconst 1, 1) := by decide +kernel
theorem dX9_raiseHill_121 : decode cX9_raiseHill 121 = .ok (.iadd, 1) := by decide +kernel
theorem dX9_raiseHill_122 : decode cX9_raiseHill 122 = .ok (.iload 8, 2) := by decide +kernel
theorem dX9_raiseHill_124 : decode cX9_raiseHill 124 = .ok (.isub, 1) := by decide +kernel
theorem dX9_raiseHill_125 : decode cX9_raiseHill 125 = .ok (.imul, 1) := by decide +kernel
theorem dX9_raiseHill_126 : decode cX9_raiseHill 126 = .ok (.iload_n 3, 1) := by decide +kernel
theorem dX9_raiseHill_127 : decode cX9_raiseHill 127 = .ok (.iconst 1, 1) := by decide +kernel
theorem dX9_raiseHill_128 : decode cX9_raiseHill 128 = .ok (.iadd, 1) := by decide +kernel
theorem dX9_raiseHill_129 : decode cX9_raiseHill 129 = .ok (.idiv, 1) := by decide +kernel
theorem dX9_raiseHill_130 : decode cX9_raiseHill 130 = .ok (.iadd, 1) := by decide +kernel
theorem dX9_raiseHill_131 : decode cX9_raiseHill 131 = .ok (.istore 9, 2) := by decide +kernel
theorem dX9_raiseHill_133 : decode cX9_raiseHill 133 = .ok (.iload 9, 2) := by decide +kernel
theorem dX9_raiseHill_135 : decode cX9_raiseHill 135 = .ok (.sipush 999, 3) := by decide +kernel
theorem dX9_raiseHill_138 : decode cX9_raiseHill 138 = .ok (.if_icmp .le 9, 3) := by decide +kernel
theorem dX9_raiseHill_141 : decode cX9_raiseHill 141 = .ok (.sipush 999, 3) := by decide +kernel
theorem dX9_raiseHill_144 : decode cX9_raiseHill 144 = .ok (.goto 5, 3) := by decide +kernel
theorem dX9_raiseHill_147 : decode cX9_raiseHill 147 = .ok (.iload 9, 2) := by decide +kernel
theorem dX9_raiseHill_149 : decode cX9_raiseHill 149 = .ok (.istore 9, 2) := by decide +kernel
theorem dX9_raiseHill_151 : decode cX9_raiseHill 151 = .ok (.iload 5, 2) := by decide +kernel
theorem dX9_raiseHill_153 : decode cX9_raiseHill 153 = .ok (.iload 9, 2) := by decide +kernel
theorem dX9_raiseHill_155 : decode cX9_raiseHill 155 = .ok (.aload_n 0, 1) := by decide +kernel
theorem dX9_raiseHill_156 : decode cX9_raiseHill 156 = .ok (.getfield 25, 3) := by decide +kernel
theorem dX9_raiseHill_159 : decode cX9_raiseHill 159 = .ok (.bipush 16, 2) := by decide +kernel
theorem dX9_raiseHill_161 : decode cX9_raiseHill 161 = .ok (.iload 6, 2) := by decide +kernel
theorem dX9_raiseHill_163 : decode cX9_raiseHill 163 = .ok (.imul, 1) := by decide +kernel
theorem dX9_raiseHill_164 : decode cX9_raiseHill 164 = .ok (.iload 7, 2) := by decide +kernel
theorem dX9_raiseHill_166 : decode cX9_raiseHill 166 = .ok (.iadd, 1) := by decide +kernel
theorem dX9_raiseHill_167 : decode cX9_raiseHill 167 = .ok (.iaload, 1) := by decide +kernel
theorem dX9_raiseHill_168 : decode cX9_raiseHill 168 = .ok (.if_icmp .ne 7, 3) := by decide +kernel
theorem dX9_raiseHill_171 : decode cX9_raiseHill 171 = .ok (.iconst 0, 1) := by decide +kernel
theorem dX9_raiseHill_172 : decode cX9_raiseHill 172 = .ok (.goto 4, 3) := by decide +kernel
theorem dX9_raiseHill_175 : decode cX9_raiseHill 175 = .ok (.iconst 1, 1) := by decide +kernel
theorem dX9_raiseHill_176 : decode cX9_raiseHill 176 = .ok (.iadd, 1) := by decide +kernel
theorem dX9_raiseHill_177 : decode cX9_raiseHill 177 = .ok (.istore 5, 2) := by decide +kernel
theorem dX9_raiseHill_179 : decode cX9_raiseHill 179 = .ok (.aload_n 0, 1) := by decide +kernel
theorem dX9_raiseHill_180 : decode cX9_raiseHill 180 = .ok (.getfield 25, 3) := by decide +kernel
theorem dX9_raiseHill_183 : decode cX9_raiseHill 183 = .ok (.bipush 16, 2) := by decide +kernel
theorem dX9_raiseHill_185 : decode cX9_raiseHill 185 = .ok (.iload 6, 2) := by decide +kernel
theorem dX9_raiseHill_187 : decode cX9_raiseHill 187 = .ok (.imul, 1) := by decide +kernel
theorem dX9_raiseHill_188 : decode cX9_raiseHill 188 = .ok (.iload 7, 2) := by decide +kernel
theorem dX9_raiseHill_190 : decode cX9_raiseHill 190 = .ok (.iadd, 1) := by decide +kernel
theorem dX9_raiseHill_191 : decode cX9_raiseHill 191 = .ok (.iload 9, 2) := by decide +kernel
theorem dX9_raiseHill_193 : decode cX9_raiseHill 193 = .ok (.iastore, 1) := by decide +kernel
theorem dX9_raiseHill_194 : decode cX9_raiseHill 194 = .ok (.iinc 7 1, 3) := by decide +kernel
theorem dX9_raiseHill_197 : decode cX9_raiseHill 197 = .ok (.goto (-144), 3) := by decide +kernel
theorem dX9_raiseHill_200 : decode cX9_raiseHill 200 = .ok (.iinc 6 1, 3) := by decide +kernel
theorem dX9_raiseHill_203 : decode cX9_raiseHill 203 = .ok (.goto (-162), 3) := by decide +kernel
theorem dX9_raiseHill_206 : decode cX9_raiseHill 206 = .ok (.iload 5, 2) := by decide +kernel
theorem dX9_raiseHill_208 : decode cX9_raiseHill 208 = .ok (.ireturn, 1) := by decide +kernel
set_option maxRecDepth 20000 in
theorem ggX9_height_X9_isCell : GoodIn wsX9_height wsX9_isCell := goodIn_r _ [6, 7, 8, 9, 10, 5, 11, 12, 13, 14, 15, 16, 17, 18, 19, 20, 21, 22, 23, 24, 25, 26, 27, 28, 29, 30, 31] (by decide +kernel) (by decide +kernel)
set_option maxRecDepth 20000 in
theorem gX9_height_X9_isCell : GoodIn wsX9_height (wsV RX9 61 RX9 yX9_isCell wsX9_isCell) := goodIn_app (goodIn_of _ (by decide +kernel)) ggX9_height_X9_isCell
theorem dX9_height_0 : decode cX9_height 0 = .ok (.aload_n 0, 1) := by decide +kernel
theorem dX9_height_1 : decode cX9_height 1 = .ok (.iload_n 1, 1) := by decide +kernel
theorem dX9_height_2 : decode cX9_height 2 = .ok (.iload_n 2, 1) := by decide +kernel
theorem dX9_height_3 : decode cX9_height 3 = .ok (.invokevirtual 61, 3) := by decide +kernel
theorem dX9_height_6 : decode cX9_height 6 = .ok (.ifCond .eq 17, 3) := by decide +kernel
theorem dX9_height_9 : decode cX9_height 9 = .ok (.aload_n 0, 1) := by decide +kernel
theorem dX9_height_10 : decode cX9_height 10 = .ok (.getfield 25, 3) := by decide +kernel
theorem dX9_height_13 : decode cX9_height 13 = .ok (.bipush 16, 2) := by decide +kernel
theorem dX9_height_15 : decode cX9_height 15 = .ok (.iload_n 1, 1) := by decide +kernel
theorem dX9_height_16 : decode cX9_height 16 = .ok (.imul, 1) := by decide +kernel
theorem dX9_height_17 : decode cX9_height 17 = .ok (.iload_n 2, 1) := by decide +kernel
theorem dX9_height_18 : decode cX9_height 18 = .ok (.iadd, 1) := by decide +kernel
theorem dX9_height_19 : decode cX9_height 19 = .ok (.iaload, 1) := by decide +kernel
theorem dX9_height_20 : decode cX9_height 20 = .ok (.goto 4, 3) := by decide +kernel
theorem dX9_height_23 : decode cX9_height 23 = .ok (.iconst (-1), 1) := by decide +kernel
theorem dX9_height_24 : decode cX9_height 24 = .ok (.ireturn, 1) := by decide +kernel
set_option maxRecDepth 20000 in
theorem ggX9_setAltitude_X9_isBetween : GoodIn wsX9_setAltitude wsX9_isBetween := goodIn_r _ [5] (by decide +kernel) (by decide +kernel)
set_option maxRecDepth 20000 in
theorem gX9_setAltitude_X9_isBetween : GoodIn wsX9_setAltitude (va_wsS RX9 54 yX9_isBetween wsX9_isBetween) := goodIn_app (goodIn_of _ (by decide +kernel)) ggX9_setAltitude_X9_isBetween
theorem dX9_setAltitude_0 : decode cX9_setAltitude 0 = .ok (.iload_n 1, 1) := by decide +kernel
theorem dX9_setAltitude_1 : decode cX9_setAltitude 1 = .ok (.bipush 100, 2) := by decide +kernel
theorem dX9_setAltitude_3 : decode cX9_setAltitude 3 = .ok (.sipush 5000, 3) := by decide +kernel
theorem dX9_setAltitude_6 : decode cX9_setAltitude 6 = .ok (.invokestatic 54, 3) := by decide +kernel
theorem dX9_setAltitude_9 : decode cX9_setAltitude 9 = .ok (.ifCond .ne 6, 3) := by decide +kernel
theorem dX9_setAltitude_12 : decode cX9_setAltitude 12 = .ok (.bipush (-4), 2) := by decide +kernel
theorem dX9_setAltitude_14 : decode cX9_setAltitude 14 = .ok (.ireturn, 1) := by decide +kernel
theorem dX9_setAltitude_15 : decode cX9_setAltitude 15 = .ok (.aload_n 0, 1) := by decide +kernel
theorem dX9_setAltitude_16 : decode cX9_setAltitude 16 = .ok (.getfield 7, 3) := by decide +kernel
theorem dX9_setAltitude_19 : decode cX9_setAltitude 19 = .ok (.istore_n 2, 1) := by decide +kernel
theorem dX9_setAltitude_20 : decode cX9_setAltitude 20 = .ok (.aload_n 0, 1) := by decide +kernel
theorem dX9_setAltitude_21 : decode cX9_setAltitude 21 = .ok (.iload_n 1, 1) := by decide +kernel
theorem dX9_setAltitude_22 : decode cX9_setAltitude 22 = .ok (.putfield 7, 3) := by decide +kernel
theorem dX9_setAltitude_25 : decode cX9_setAltitude 25 = .ok (.iload_n 2, 1) := by decide +kernel
theorem dX9_setAltitude_26 : decode cX9_setAltitude 26 = .ok (.ireturn, 1) := by decide +kernel
set_option maxRecDepth 20000 in
theorem ggX9_setFields_X9_isBetween : GoodIn wsX9_setFields wsX9_isBetween := goodIn_r _ [6] (by decide +kernel) (by decide +kernel)
set_option maxRecDepth 20000 in
theorem gX9_setFields_X9_isBetween : GoodIn wsX9_setFields (va_wsS RX9 54 yX9_isBetween wsX9_isBetween) := goodIn_app (goodIn_of _ (by decide +kernel)) ggX9_setFields_X9_isBetween
theorem dX9_setFields_0 : decode cX9_setFields 0 = .ok (.iload_n 1, 1) := by decide +kernel
theorem dX9_setFields_1 : decode cX9_setFields 1 = .ok (.iconst 1, 1) := by decide +kernel
theorem dX9_setFields_2 : decode cX9_setFields 2 = .ok (.bipush 50, 2) := by decide +kernel
theorem dX9_setFields_4 : decode cX9_setFields 4 = .ok (.invokestatic 54, 3) := by decide +kernel
theorem dX9_setFields_7 : decode cX9_setFields 7 = .ok (.ifCond .eq 13, 3) := by decide +kernel
theorem dX9_setFields_10 : decode cX9_setFields 10 = .ok (.iload_n 2, 1) := by decide +kernel
theorem dX9_setFields_11 : decode cX9_setFields 11 = .ok (.iconst 1, 1) := by decide +kernel
theorem dX9_setFields_12 : decode cX9_setFields 12 = .ok (.bipush 50, 2) := by decide +kernel
theorem dX9_setFields_14 : decode cX9_setFields 14 = .ok (.invokestatic 54, 3) := by decide +kernel
theorem dX9_setFields_17 : decode cX9_setFields 17 = .ok (.ifCond .ne 6, 3) := by decide +kernel
theorem dX9_setFields_20 : decode cX9_setFields 20 = .ok (.bipush (-4), 2) := by decide +kernel
theorem dX9_setFields_22 : decode cX9_setFields 22 = .ok (.ireturn, 1) := by decide +kernel
theorem dX9_setFields_23 : decode cX9_setFields 23 = .ok (.aload_n 0, 1) := by decide +kernel
theorem dX9_setFields_24 : decode cX9_setFields 24 = .ok (.getfield 13, 3) := by decide +kernel
theorem dX9_setFields_27 : decode cX9_setFields 27 = .ok (.iload_n 1, 1) := by decide +kernel
theorem dX9_setFields_28 : decode cX9_setFields 28 = .ok (.if_icmp .ne 15, 3) := by decide +kernel
theorem dX9_setFields_31 : decode cX9_setFields 31 = .ok (.aload_n 0, 1) := by decide +kernel
theorem dX9_setFields_32 : decode cX9_setFields 32 = .ok (.getfield 16, 3) := by decide +kernel
theorem dX9_setFields_35 : decode cX9_setFields 35 = .ok (.iload_n 2, 1) := by decide +kernel
theorem dX9_setFields_36 : decode cX9_setFields 36 = .ok (.if_icmp .ne 7, 3) := by decide +kernel
theorem dX9_setFields_39 : decode cX9_setFields 39 = .ok (.iconst 1, 1) := by decide +kernel
theorem dX9_setFields_40 : decode cX9_setFields 40 = .ok (.goto 4, 3) := by decide +kernel
theorem dX9_setFields_43 : decode cX9_setFields 43 = .ok (.iconst 0, 1) := by decide +kernel
theorem dX9_setFields_44 : decode cX9_setFields 44 = .ok (.istore_n 3, 1) := by decide +kernel
theorem dX9_setFields_45 : decode cX9_setFields 45 = .ok (.aload_n 0, 1) := by decide +kernel
theorem dX9_setFields_46 : decode cX9_setFields 46 = .ok (.iload_n 1, 1) := by decide +kernel
theorem dX9_setFields_47 : decode cX9_setFields 47 = .ok (.putfield 13, 3) := by decide +kernel
theorem dX9_setFields_50 : decode cX9_setFields 50 = .ok (.aload_n 0, 1) := by decide +kernel
theorem dX9_setFields_51 : decode cX9_setFields 51 = .ok (.iload_n 2, 1) := by decide +kernel
theorem dX9_setFields_52 : decode cX9_setFields 52 = .ok (.putfield 16, 3) := by decide +kernel
theorem dX9_setFields_55 : decode cX9_setFields 55 = .ok (.iload_n 3, 1) := by decide +kernel
theorem dX9_setFields_56 : decode cX9_setFields 56 = .ok (.ifCond .eq 7, 3) := by decide +kernel
theorem dX9_setFields_59 : decode cX9_setFields 59 = .ok (.iconst 0, 1) := by decide +kernel
theorem dX9_setFields_60 : decode cX9_setFields 60 = .ok (.goto 4, 3) := by decide +kernel
theorem dX9_setFields_63 : decode cX9_setFields 63 = .ok (.iconst 1, 1) := by decide +kernel
theorem dX9_setFields_64 : decode cX9_setFields 64 = .ok (.ireturn, 1) := by decide +kernel
set_option maxRecDepth 20000 in
theorem ggX9_setCrab_X9_isBetween : GoodIn wsX9_setCrab wsX9_isBetween := goodIn_r _ [5] (by decide +kernel) (by decide +kernel)
set_option maxRecDepth 20000 in
theorem gX9_setCrab_X9_isBetween : GoodIn wsX9_setCrab (va_wsS RX9 54 yX9_isBetween wsX9_isBetween) := goodIn_app (goodIn_of _ (by decide +kernel)) ggX9_setCrab_X9_isBetween
theorem dX9_setCrab_0 : decode cX9_setCrab 0 = .ok (.iload_n 1, 1) := by decide +kernel
theorem dX9_setCrab_1 : decode cX9_setCrab 1 = .ok (.bipush (-100), 2) := by decide +kernel
theorem dX9_setCrab_3 : decode cX9_setCrab 3 = .ok (.bipush 100, 2) := by decide +kernel
theorem dX9_setCrab_5 : decode cX9_setCrab 5 = .ok (.invokestatic 54, 3) := by decide +kernel
theorem dX9_setCrab_8 : decode cX9_setCrab 8 = .ok (.ifCond .ne 6, 3) := by decide +kernel
theorem dX9_setCrab_11 : decode cX9_setCrab 11 = .ok (.bipush (-4), 2) := by decide +kernel
theorem dX9_setCrab_13 : decode cX9_setCrab 13 = .ok (.ireturn, 1) := by decide +kernel
theorem dX9_setCrab_14 : decode cX9_setCrab 14 = .ok (.aload_n 0, 1) := by decide +kernel
theorem dX9_setCrab_15 : decode cX9_setCrab 15 = .ok (.getfield 69, 3) := by decide +kernel
theorem dX9_setCrab_18 : decode cX9_setCrab 18 = .ok (.iload_n 1, 1) := by decide +kernel
theorem dX9_setCrab_19 : decode cX9_setCrab 19 = .ok (.if_icmp .ne 7, 3) := by decide +kernel
theorem dX9_setCrab_22 : decode cX9_setCrab 22 = .ok (.iconst 1, 1) := by decide +kernel
theorem dX9_setCrab_23 : decode cX9_setCrab 23 = .ok (.goto 4, 3) := by decide +kernel
theorem dX9_setCrab_26 : decode cX9_setCrab 26 = .ok (.iconst 0, 1) := by decide +kernel
theorem dX9_setCrab_27 : decode cX9_setCrab 27 = .ok (.istore_n 2, 1) := by decide +kernel
theorem dX9_setCrab_28 : decode cX9_setCrab 28 = .ok (.aload_n 0, 1) := by decide +kernel
theorem dX9_setCrab_29 : decode cX9_setCrab 29 = .ok (.iload_n 1, 1) := by decide +kernel
theorem dX9_setCrab_30 : decode cX9_setCrab 30 = .ok (.putfield 69, 3) := by decide +kernel
theorem dX9_setCrab_33 : decode cX9_setCrab 33 = .ok (.iload_n 2, 1) := by decide +kernel
theorem dX9_setCrab_34 : decode cX9_setCrab 34 = .ok (.ifCond .eq 7, 3) := by decide +kernel
theorem dX9_setCrab_37 : decode cX9_setCrab 37 = .ok (.iconst 0, 1) := by decide +kernel
theorem dX9_setCrab_38 : decode cX9_setCrab 38 = .ok (.goto 4, 3) := by decide +kernel
theorem dX9_setCrab_41 : decode cX9_setCrab 41 = .ok (.iconst 1, 1) := by decide +kernel
theorem dX9_setCrab_42 : decode cX9_setCrab 42 = .ok (.ireturn, 1) := by decide +kernel
set_option maxRecDepth 20000 in
theorem ggX9_setSpeed_X9_isBetween : GoodIn wsX9_setSpeed wsX9_isBetween := goodIn_r _ [7] (by decide +kernel) (by decide +kernel)
set_option maxRecDepth 20000 in
theorem gX9_setSpeed_X9_isBetween : GoodIn wsX9_setSpeed (va_wsS RX9 54 yX9_isBetween wsX9_isBetween) := goodIn_app (goodIn_of _ (by decide +kernel)) ggX9_setSpeed_X9_isBetween
theorem dX9_setSpeed_0 : decode cX9_setSpeed 0 = .ok (.iload_n 1, 1) := by decide +kernel
theorem dX9_setSpeed_1 : decode cX9_setSpeed 1 = .ok (.bipush 50, 2) := by decide +kernel
theorem dX9_setSpeed_3 : decode cX9_setSpeed 3 = .ok (.sipush 300, 3) := by decide +kernel
theorem dX9_setSpeed_6 : decode cX9_setSpeed 6 = .ok (.invokestatic 54, 3) := by decide +kernel
theorem dX9_setSpeed_9 : decode cX9_setSpeed 9 = .ok (.ifCond .eq 25, 3) := by decide +kernel
theorem dX9_setSpeed_12 : decode cX9_setSpeed 12 = .ok (.iload_n 2, 1) := by decide +kernel
theorem dX9_setSpeed_13 : decode cX9_setSpeed 13 = .ok (.bipush (-40), 2) := by decide +kernel
theorem dX9_setSpeed_15 : decode cX9_setSpeed 15 = .ok (.bipush 40, 2) := by decide +kernel
theorem dX9_setSpeed_17 : decode cX9_setSpeed 17 = .ok (.invokestatic 54, 3) := by decide +kernel
theorem dX9_setSpeed_20 : decode cX9_setSpeed 20 = .ok (.ifCond .eq 14, 3) := by decide +kernel
theorem dX9_setSpeed_23 : decode cX9_setSpeed 23 = .ok (.iload_n 3, 1) := by decide +kernel
theorem dX9_setSpeed_24 : decode cX9_setSpeed 24 = .ok (.iconst 0, 1) := by decide +kernel
theorem dX9_setSpeed_25 : decode cX9_setSpeed 25 = .ok (.sipush 500, 3) := by decide +kernel
theorem dX9_setSpeed_28 : decode cX9_setSpeed 28 = .ok (.invokestatic 54, 3) := by decide +kernel
theorem dX9_setSpeed_31 : decode cX9_setSpeed 31 = .ok (.ifCond .ne 6, 3) := by decide +kernel
theorem dX9_setSpeed_34 : decode cX9_setSpeed 34 = .ok (.bipush (-4), 2) := by decide +kernel
theorem dX9_setSpeed_36 : decode cX9_setSpeed 36 = .ok (.ireturn, 1) := by decide +kernel
theorem dX9_setSpeed_37 : decode cX9_setSpeed 37 = .ok (.aload_n 0, 1) := by decide +kernel
theorem dX9_setSpeed_38 : decode cX9_setSpeed 38 = .ok (.getfield 19, 3) := by decide +kernel
theorem dX9_setSpeed_41 : decode cX9_setSpeed 41 = .ok (.iload_n 1, 1) := by decide +kernel
theorem dX9_setSpeed_42 : decode cX9_setSpeed 42 = .ok (.if_icmp .ne 23, 3) := by decide +kernel
theorem dX9_setSpeed_45 : decode cX9_setSpeed 45 = .ok (.aload_n 0, 1) := by decide +kernel
theorem dX9_setSpeed_46 : decode cX9_setSpeed 46 = .ok (.getfield 72, 3) := by decide +kernel
theorem dX9_setSpeed_49 : decode cX9_setSpeed 49 = .ok (.iload_n 2, 1) := by decide +kernel
theorem dX9_setSpeed_50 : decode cX9_setSpeed 50 = .ok (.if_icmp .ne 15, 3) := by decide +kernel
theorem dX9_setSpeed_53 : decode cX9_setSpeed 53 = .ok (.aload_n 0, 1) := by decide +kernel
theorem dX9_setSpeed_54 : decode cX9_setSpeed 54 = .ok (.getfield 22, 3) := by decide +kernel
theorem dX9_setSpeed_57 : decode cX9_setSpeed 57 = .ok (.iload_n 3, 1) := by decide +kernel
theorem dX9_setSpeed_58 : decode cX9_setSpeed 58 = .ok (.if_icmp .ne 7, 3) := by decide +kernel
theorem dX9_setSpeed_61 : decode cX9_setSpeed 61 = .ok (.iconst 1, 1) := by decide +kernel
theorem dX9_setSpeed_62 : decode cX9_setSpeed 62 = .ok (.goto 4, 3) := by decide +kernel
theorem dX9_setSpeed_65 : decode cX9_setSpeed 65 = .ok (.iconst 0, 1) := by decide +kernel
theorem dX9_setSpeed_66 : decode cX9_setSpeed 66 = .ok (.istore 4, 2) := by decide +kernel
theorem dX9_setSpeed_68 : decode cX9_setSpeed 68 = .ok (.aload_n 0, 1) := by decide +kernel
theorem dX9_setSpeed_69 : decode cX9_setSpeed 69 = .ok (.iload_n 1, 1) := by decide +kernel
theorem dX9_setSpeed_70 : decode cX9_setSpeed 70 = .ok (.putfield 19, 3) := by decide +kernel
theorem dX9_setSpeed_73 : decode cX9_setSpeed 73 = .ok (.aload_n 0, 1) := by decide +kernel
theorem dX9_setSpeed_74 : decode cX9_setSpeed 74 = .ok (.iload_n 2, 1) := by decide +kernel
theorem dX9_setSpeed_75 : decode cX9_setSpeed 75 = .ok (.putfield 72, 3) := by decide +kernel
theorem dX9_setSpeed_78 : decode cX9_setSpeed 78 = .ok (.aload_n 0, 1) := by decide +kernel
theorem dX9_setSpeed_79 : decode cX9_setSpeed 79 = .ok (.iload_n 3, 1) := by decide +kernel
theorem dX9_setSpeed_80 : decode cX9_setSpeed 80 = .ok (.putfield 22, 3) := by decide +kernel
theorem dX9_setSpeed_83 : decode cX9_setSpeed 83 = .ok (.iload 4, 2) := by decide +kernel
theorem dX9_setSpeed_85 : decode cX9_setSpeed 85 = .ok (.ifCond .eq 7, 3) := by decide +kernel
theorem dX9_setSpeed_88 : decode cX9_setSpeed 88 = .ok (.iconst 0, 1) := by decide +kernel
theorem dX9_setSpeed_89 : decode cX9_setSpeed 89 = .ok (.goto 4, 3) := by decide +kernel
theorem dX9_setSpeed_92 : decode cX9_setSpeed 92 = .ok (.iconst 1, 1) := by decide +kernel
theorem dX9_setSpeed_93 : decode cX9_setSpeed 93 = .ok (.ireturn, 1) := by decide +kernel
set_option maxRecDepth 20000 in
theorem ggX9_isStrip_X9_isBetween : GoodIn wsX9_isStrip wsX9_isBetween := goodIn_r _ [5] (by decide +kernel) (by decide +kernel)
set_option maxRecDepth 20000 in
theorem gX9_isStrip_X9_isBetween : GoodIn wsX9_isStrip (va_wsS RX9 54 yX9_isBetween wsX9_isBetween) := goodIn_app (goodIn_of _ (by decide +kernel)) ggX9_isStrip_X9_isBetween
theorem dX9_isStrip_0 : decode cX9_isStrip 0 = .ok (.iload_n 1, 1) := by decide +kernel
theorem dX9_isStrip_1 : decode cX9_isStrip 1 = .ok (.iconst 0, 1) := by decide +kernel
theorem dX9_isStrip_2 : decode cX9_isStrip 2 = .ok (.aload_n 0, 1) := by decide +kernel
theorem dX9_isStrip_3 : decode cX9_isStrip 3 = .ok (.getfield 58, 3) := by decide +kernel
theorem dX9_isStrip_6 : decode cX9_isStrip 6 = .ok (.iconst 1, 1) := by decide +kernel
theorem dX9_isStrip_7 : decode cX9_isStrip 7 = .ok (.isub, 1) := by decide +kernel
theorem dX9_isStrip_8 : decode cX9_isStrip 8 = .ok (.invokestatic 54, 3) := by decide +kernel
theorem dX9_isStrip_11 : decode cX9_isStrip 11 = .ok (.ireturn, 1) := by decide +kernel
theorem dX9_put_0 : decode cX9_put 0 = .ok (.aload_n 0, 1) := by decide +kernel
theorem dX9_put_1 : decode cX9_put 1 = .ok (.getfield 29, 3) := by decide +kernel
theorem dX9_put_4 : decode cX9_put 4 = .ok (.aload_n 0, 1) := by decide +kernel
theorem dX9_put_5 : decode cX9_put 5 = .ok (.getfield 58, 3) := by decide +kernel
theorem dX9_put_8 : decode cX9_put 8 = .ok (.iload_n 1, 1) := by decide +kernel
theorem dX9_put_9 : decode cX9_put 9 = .ok (.iastore, 1) := by decide +kernel
theorem dX9_put_10 : decode cX9_put 10 = .ok (.aload_n 0, 1) := by decide +kernel
theorem dX9_put_11 : decode cX9_put 11 = .ok (.getfield 32, 3) := by decide +kernel
theorem dX9_put_14 : decode cX9_put 14 = .ok (.aload_n 0, 1) := by decide +kernel
theorem dX9_put_15 : decode cX9_put 15 = .ok (.getfield 58, 3) := by decide +kernel
theorem dX9_put_18 : decode cX9_put 18 = .ok (.iload_n 2, 1) := by decide +kernel
theorem dX9_put_19 : decode cX9_put 19 = .ok (.iastore, 1) := by decide +kernel
theorem dX9_put_20 : decode cX9_put 20 = .ok (.aload_n 0, 1) := by decide +kernel
theorem dX9_put_21 : decode cX9_put 21 = .ok (.getfield 35, 3) := by decide +kernel
theorem dX9_put_24 : decode cX9_put 24 = .ok (.aload_n 0, 1) := by decide +kernel
theorem dX9_put_25 : decode cX9_put 25 = .ok (.getfield 58, 3) := by decide +kernel
theorem dX9_put_28 : decode cX9_put 28 = .ok (.iload_n 3, 1) := by decide +kernel
theorem dX9_put_29 : decode cX9_put 29 = .ok (.iastore, 1) := by decide +kernel
theorem dX9_put_30 : decode cX9_put 30 = .ok (.aload_n 0, 1) := by decide +kernel
theorem dX9_put_31 : decode cX9_put 31 = .ok (.getfield 38, 3) := by decide +kernel
theorem dX9_put_34 : decode cX9_put 34 = .ok (.aload_n 0, 1) := by decide +kernel
theorem dX9_put_35 : decode cX9_put 35 = .ok (.getfield 58, 3) := by decide +kernel
theorem dX9_put_38 : decode cX9_put 38 = .ok (.iload 4, 2) := by decide +kernel
theorem dX9_put_40 : decode cX9_put 40 = .ok (.iastore, 1) := by decide +kernel
theorem dX9_put_41 : decode cX9_put 41 = .ok (.aload_n 0, 1) := by decide +kernel
theorem dX9_put_42 : decode cX9_put 42 = .ok (.dup, 1) := by decide +kernel
theorem dX9_put_43 : decode cX9_put 43 = .ok (.getfield 58, 3) := by decide +kernel
theorem dX9_put_46 : decode cX9_put 46 = .ok (.iconst 1, 1) := by decide +kernel
theorem dX9_put_47 : decode cX9_put 47 = .ok (.iadd, 1) := by decide +kernel
theorem dX9_put_48 : decode cX9_put 48 = .ok (.putfield 58, 3) := by decide +kernel
theorem dX9_put_51 : decode cX9_put 51 = .ok (.return_, 1) := by decide +kernel
set_option maxRecDepth 20000 in
theorem ggX9_addStrip_X9_isCell : GoodIn wsX9_addStrip wsX9_isCell := goodIn_r _ [6, 7, 8, 9, 10, 5, 11, 20, 21, 22, 23, 24, 25, 26, 27, 28, 29, 30, 31, 32, 33, 34, 35, 36, 37, 38, 39] (by decide +kernel) (by decide +kernel)
set_option maxRecDepth 20000 in
theorem gX9_addStrip_X9_isCell : GoodIn wsX9_addStrip (wsV RX9 61 RX9 yX9_isCell wsX9_isCell) := goodIn_app (goodIn_of _ (by decide +kernel)) ggX9_addStrip_X9_isCell
set_option maxRecDepth 20000 in
theorem ggX9_addStrip_X9_isBetween : GoodIn wsX9_addStrip wsX9_isBetween := goodIn_r _ [11] (by decide +kernel) (by decide +kernel)
set_option maxRecDepth 20000 in
theorem gX9_addStrip_X9_isBetween : GoodIn wsX9_addStrip (va_wsS RX9 54 yX9_isBetween wsX9_isBetween) := goodIn_app (goodIn_of _ (by decide +kernel)) ggX9_addStrip_X9_isBetween
set_option maxRecDepth 20000 in
theorem ggX9_addStrip_X9_put : GoodIn wsX9_addStrip wsX9_put := goodIn_r _ [15, 16, 1, 17, 18, 19, 20, 21, 22, 23, 24, 25, 26, 27, 28, 29, 30, 31, 32, 33, 34, 35, 36, 37, 38, 39] (by decide +kernel) (by decide +kernel)
set_option maxRecDepth 20000 in
theorem gX9_addStrip_X9_put : GoodIn wsX9_addStrip (wsV RX9 75 RX9 yX9_put wsX9_put) := goodIn_app (goodIn_of _ (by decide +kernel)) ggX9_addStrip_X9_put
theorem dX9_addStrip_0 : decode cX9_addStrip 0 = .ok (.aload_n 0, 1) := by decide +kernel
theorem dX9_addStrip_1 : decode cX9_addStrip 1 = .ok (.iload_n 1, 1) := by decide +kernel
theorem dX9_addStrip_2 : decode cX9_addStrip 2 = .ok (.iload_n 2, 1) := by decide +kernel
theorem dX9_addStrip_3 : decode cX9_addStrip 3 = .ok (.invokevirtual 61, 3) := by decide +kernel
theorem dX9_addStrip_6 : decode cX9_addStrip 6 = .ok (.ifCond .eq 12, 3) := by decide +kernel
theorem dX9_addStrip_9 : decode cX9_addStrip 9 = .ok (.aload_n 0, 1) := by decide +kernel
theorem dX9_addStrip_10 : decode cX9_addStrip 10 = .ok (.iload_n 1, 1) := by decide +kernel
theorem dX9_addStrip_11 : decode cX9_addStrip 11 = .ok (.iload_n 3, 1) := by decide +kernel
theorem dX9_addStrip_12 : decode cX9_addStrip 12 = .ok (.invokevirtual 61, 3) := by decide +kernel
theorem dX9_addStrip_15 : decode cX9_addStrip 15 = .ok (.ifCond .ne 5, 3) := by decide +kernel
theorem dX9_addStrip_18 : decode cX9_addStrip 18 = .ok (.iconst (-1), 1) := by decide +kernel
theorem dX9_addStrip_19 : decode cX9_addStrip 19 = .ok (.ireturn, 1) := by decide +kernel
theorem dX9_addStrip_20 : decode cX9_addStrip 20 = .ok (.iload_n 3, 1) := by decide +kernel
theorem dX9_addStrip_21 : decode cX9_addStrip 21 = .ok (.iload_n 2, 1) := by decide +kernel
theorem dX9_addStrip_22 : decode cX9_addStrip 22 = .ok (.if_icmp .lt 14, 3) := by decide +kernel
theorem dX9_addStrip_25 : decode cX9_addStrip 25 = .ok (.iload 4, 2) := by decide +kernel
theorem dX9_addStrip_27 : decode cX9_addStrip 27 = .ok (.iconst 1, 1) := by decide +kernel
theorem dX9_addStrip_28 : decode cX9_addStrip 28 = .ok (.bipush 16, 2) := by decide +kernel
theorem dX9_addStrip_30 : decode cX9_addStrip 30 = .ok (.invokestatic 54, 3) := by decide +kernel
theorem dX9_addStrip_33 : decode cX9_addStrip 33 = .ok (.ifCond .ne 6, 3) := by decide +kernel
theorem dX9_addStrip_36 : decode cX9_addStrip 36 = .ok (.bipush (-4), 2) := by decide +kernel
theorem dX9_addStrip_38 : decode cX9_addStrip 38 = .ok (.ireturn, 1) := by decide +kernel
theorem dX9_addStrip_39 : decode cX9_addStrip 39 = .ok (.aload_n 0, 1) := by decide +kernel
theorem dX9_addStrip_40 : decode cX9_addStrip 40 = .ok (.getfield 58, 3) := by decide +kernel
theorem dX9_addStrip_43 : decode cX9_addStrip 43 = .ok (.bipush 8, 2) := by decide +kernel
theorem dX9_addStrip_45 : decode cX9_addStrip 45 = .ok (.if_icmp .ne 6, 3) := by decide +kernel
theorem dX9_addStrip_48 : decode cX9_addStrip 48 = .ok (.bipush (-5), 2) := by decide +kernel
theorem dX9_addStrip_50 : decode cX9_addStrip 50 = .ok (.ireturn, 1) := by decide +kernel
theorem dX9_addStrip_51 : decode cX9_addStrip 51 = .ok (.aload_n 0, 1) := by decide +kernel
theorem dX9_addStrip_52 : decode cX9_addStrip 52 = .ok (.iload_n 1, 1) := by decide +kernel
theorem dX9_addStrip_53 : decode cX9_addStrip 53 = .ok (.iload_n 2, 1) := by decide +kernel
theorem dX9_addStrip_54 : decode cX9_addStrip 54 = .ok (.iload_n 3, 1) := by decide +kernel
theorem dX9_addStrip_55 : decode cX9_addStrip 55 = .ok (.iload 4, 2) := by decide +kernel
theorem dX9_addStrip_57 : decode cX9_addStrip 57 = .ok (.invokevirtual 75, 3) := by decide +kernel
theorem dX9_addStrip_60 : decode cX9_addStrip 60 = .ok (.aload_n 0, 1) := by decide +kernel
theorem dX9_addStrip_61 : decode cX9_addStrip 61 = .ok (.getfield 58, 3) := by decide +kernel
theorem dX9_addStrip_64 : decode cX9_addStrip 64 = .ok (.iconst 1, 1) := by decide +kernel
theorem dX9_addStrip_65 : decode cX9_addStrip 65 = .ok (.isub, 1) := by decide +kernel
theorem dX9_addStrip_66 : decode cX9_addStrip 66 = .ok (.ireturn, 1) := by decide +kernel
set_option maxRecDepth 20000 in
theorem ggX9_removeStrip_X9_isStrip : GoodIn wsX9_removeStrip wsX9_isStrip := goodIn_r _ [10, 1, 11, 12, 9, 13, 14, 15, 16, 17, 18, 19, 20, 21, 22, 23, 24, 25, 26, 27, 28, 29, 30, 31, 32, 33] (by decide +kernel) (by decide +kernel)
set_option maxRecDepth 20000 in
theorem gX9_removeStrip_X9_isStrip : GoodIn wsX9_removeStrip (wsV RX9 79 RX9 yX9_isStrip wsX9_isStrip) := goodIn_app (goodIn_of _ (by decide +kernel)) ggX9_removeStrip_X9_isStrip
theorem dX9_removeStrip_0 : decode cX9_removeStrip 0 = .ok (.aload_n 0, 1) := by decide +kernel
theorem dX9_removeStrip_1 : decode cX9_removeStrip 1 = .ok (.iload_n 1, 1) := by decide +kernel
theorem dX9_removeStrip_2 : decode cX9_removeStrip 2 = .ok (.invokevirtual 79, 3) := by decide +kernel
theorem dX9_removeStrip_5 : decode cX9_removeStrip 5 = .ok (.ifCond .ne 6, 3) := by decide +kernel
theorem dX9_removeStrip_8 : decode cX9_removeStrip 8 = .ok (.bipush (-2), 2) := by decide +kernel
theorem dX9_removeStrip_10 : decode cX9_removeStrip 10 = .ok (.ireturn, 1) := by decide +kernel
theorem dX9_removeStrip_11 : decode cX9_removeStrip 11 = .ok (.aload_n 0, 1) := by decide +kernel
theorem dX9_removeStrip_12 : decode cX9_removeStrip 12 = .ok (.dup, 1) := by decide +kernel
theorem dX9_removeStrip_13 : decode cX9_removeStrip 13 = .ok (.getfield 58, 3) := by decide +kernel
theorem dX9_removeStrip_16 : decode cX9_removeStrip 16 = .ok (.iconst 1, 1) := by decide +kernel
theorem dX9_removeStrip_17 : decode cX9_removeStrip 17 = .ok (.isub, 1) := by decide +kernel
theorem dX9_removeStrip_18 : decode cX9_removeStrip 18 = .ok (.putfield 58, 3) := by decide +kernel
theorem dX9_removeStrip_21 : decode cX9_removeStrip 21 = .ok (.iload_n 1, 1) := by decide +kernel
theorem dX9_removeStrip_22 : decode cX9_removeStrip 22 = .ok (.istore_n 2, 1) := by decide +kernel
theorem dX9_removeStrip_23 : decode cX9_removeStrip 23 = .ok (.iload_n 2, 1) := by decide +kernel
theorem dX9_removeStrip_24 : decode cX9_removeStrip 24 = .ok (.aload_n 0, 1) := by decide +kernel
theorem dX9_removeStrip_25 : decode cX9_removeStrip 25 = .ok (.getfield 58, 3) := by decide +kernel
theorem dX9_removeStrip_28 : decode cX9_removeStrip 28 = .ok (.if_icmp .ge 65, 3) := by decide +kernel
theorem dX9_removeStrip_31 : decode cX9_removeStrip 31 = .ok (.aload_n 0, 1) := by decide +kernel
theorem dX9_removeStrip_32 : decode cX9_removeStrip 32 = .ok (.getfield 29, 3) := by decide +kernel
theorem dX9_removeStrip_35 : decode cX9_removeStrip 35 = .ok (.iload_n 2, 1) := by decide +kernel
theorem dX9_removeStrip_36 : decode cX9_removeStrip 36 = .ok (.aload_n 0, 1) := by decide +kernel
theorem dX9_removeStrip_37 : decode cX9_removeStrip 37 = .ok (.getfield 29, 3) := by decide +kernel
theorem dX9_removeStrip_40 : decode cX9_removeStrip 40 = .ok (.iload_n 2, 1) := by decide +kernel
theorem dX9_removeStrip_41 : decode cX9_removeStrip 41 = .ok (.iconst 1, 1) := by decide +kernel
theorem dX9_removeStrip_42 : decode cX9_removeStrip 42 = .ok (.iadd, 1) := by decide +kernel
theorem dX9_removeStrip_43 : decode cX9_removeStrip 43 = .ok (.iaload, 1) := by decide +kernel
theorem dX9_removeStrip_44 : decode cX9_removeStrip 44 = .ok (.iastore, 1) := by decide +kernel
theorem dX9_removeStrip_45 : decode cX9_removeStrip 45 = .ok (.aload_n 0, 1) := by decide +kernel
theorem dX9_removeStrip_46 : decode cX9_removeStrip 46 = .ok (.getfield 32, 3) := by decide +kernel
theorem dX9_removeStrip_49 : decode cX9_removeStrip 49 = .ok (.iload_n 2, 1) := by decide +kernel
theorem dX9_removeStrip_50 : decode cX9_removeStrip 50 = .ok (.aload_n 0, 1) := by decide +kernel
theorem dX9_removeStrip_51 : decode cX9_removeStrip 51 = .ok (.getfield 32, 3) := by decide +kernel
theorem dX9_removeStrip_54 : decode cX9_removeStrip 54 = .ok (.iload_n 2, 1) := by decide +kernel
theorem dX9_removeStrip_55 : decode cX9_removeStrip 55 = .ok (.iconst 1, 1) := by decide +kernel
theorem dX9_removeStrip_56 : decode cX9_removeStrip 56 = .ok (.iadd, 1) := by decide +kernel
theorem dX9_removeStrip_57 : decode cX9_removeStrip 57 = .ok (.iaload, 1) := by decide +kernel
theorem dX9_removeStrip_58 : decode cX9_removeStrip 58 = .ok (.iastore, 1) := by decide +kernel
theorem dX9_removeStrip_59 : decode cX9_removeStrip 59 = .ok (.aload_n 0, 1) := by decide +kernel
theorem dX9_removeStrip_60 : decode cX9_removeStrip 60 = .ok (.getfield 35, 3) := by decide +kernel
theorem dX9_removeStrip_63 : decode cX9_removeStrip 63 = .ok (.iload_n 2, 1) := by decide +kernel
theorem dX9_removeStrip_64 : decode cX9_removeStrip 64 = .ok (.aload_n 0, 1) := by decide +kernel
theorem dX9_removeStrip_65 : decode cX9_removeStrip 65 = .ok (.getfield 35, 3) := by decide +kernel
theorem dX9_removeStrip_68 : decode cX9_removeStrip 68 = .ok (.iload_n 2, 1) := by decide +kernel
theorem dX9_removeStrip_69 : decode cX9_removeStrip 69 = .ok (.iconst 1, 1) := by decide +kernel
theorem dX9_removeStrip_70 : decode cX9_removeStrip 70 = .ok (.iadd, 1) := by decide +kernel
theorem dX9_removeStrip_71 : decode cX9_removeStrip 71 = .ok (.iaload, 1) := by decide +kernel
theorem dX9_removeStrip_72 : decode cX9_removeStrip 72 = .ok (.iastore, 1) := by decide +kernel
theorem dX9_removeStrip_73 : decode cX9_removeStrip 73 = .ok (.aload_n 0, 1) := by decide +kernel
theorem dX9_removeStrip_74 : decode cX9_removeStrip 74 = .ok (.getfield 38, 3) := by decide +kernel
theorem dX9_removeStrip_77 : decode cX9_removeStrip 77 = .ok (.iload_n 2, 1) := by decide +kernel
theorem dX9_removeStrip_78 : decode cX9_removeStrip 78 = .ok (.aload_n 0, 1) := by decide +kernel
theorem dX9_removeStrip_79 : decode cX9_removeStrip 79 = .ok (.getfield 38, 3) := by decide +kernel
theorem dX9_removeStrip_82 : decode cX9_removeStrip 82 = .ok (.iload_n 2, 1) := by decide +kernel
theorem dX9_removeStrip_83 : decode cX9_removeStrip 83 = .ok (.iconst 1, 1) := by decide +kernel
theorem dX9_removeStrip_84 : decode cX9_removeStrip 84 = .ok (.iadd, 1) := by decide +kernel
theorem dX9_removeStrip_85 : decode cX9_removeStrip 85 = .ok (.iaload, 1) := by decide +kernel
theorem dX9_removeStrip_86 : decode cX9_removeStrip 86 = .ok (.iastore, 1) := by decide +kernel
theorem dX9_removeStrip_87 : decode cX9_removeStrip 87 = .ok (.iinc 2 1, 3) := by decide +kernel
theorem dX9_removeStrip_90 : decode cX9_removeStrip 90 = .ok (.goto (-67), 3) := by decide +kernel
theorem dX9_removeStrip_93 : decode cX9_removeStrip 93 = .ok (.aload_n 0, 1) := by decide +kernel
theorem dX9_removeStrip_94 : decode cX9_removeStrip 94 = .ok (.getfield 58, 3) := by decide +kernel
theorem dX9_removeStrip_97 : decode cX9_removeStrip 97 = .ok (.ireturn, 1) := by decide +kernel
theorem dX9_stripCount_0 : decode cX9_stripCount 0 = .ok (.aload_n 0, 1) := by decide +kernel
theorem dX9_stripCount_1 : decode cX9_stripCount 1 = .ok (.getfield 58, 3) := by decide +kernel
theorem dX9_stripCount_4 : decode cX9_stripCount 4 = .ok (.ireturn, 1) := by decide +kernel
theorem dX9_photosOf_0 : decode cX9_photosOf 0 = .ok (.aload_n 0, 1) := by decide +kernel
theorem dX9_photosOf_1 : decode cX9_photosOf 1 = .ok (.getfield 35, 3) := by decide +kernel
theorem dX9_photosOf_4 : decode cX9_photosOf 4 = .ok (.iload_n 1, 1) := by decide +kernel
theorem dX9_photosOf_5 : decode cX9_photosOf 5 = .ok (.iaload, 1) := by decide +kernel
theorem dX9_photosOf_6 : decode cX9_photosOf 6 = .ok (.aload_n 0, 1) := by decide +kernel
theorem dX9_photosOf_7 : decode cX9_photosOf 7 = .ok (.getfield 32, 3) := by decide +kernel
theorem dX9_photosOf_10 : decode cX9_photosOf 10 = .ok (.iload_n 1, 1) := by decide +kernel
theorem dX9_photosOf_11 : decode cX9_photosOf 11 = .ok (.iaload, 1) := by decide +kernel
theorem dX9_photosOf_12 : decode cX9_photosOf 12 = .ok (.isub, 1) := by decide +kernel
theorem dX9_photosOf_13 : decode cX9_photosOf 13 = .ok (.aload_n 0, 1) := by decide +kernel
theorem dX9_photosOf_14 : decode cX9_photosOf 14 = .ok (.getfield 38, 3) := by decide +kernel
theorem dX9_photosOf_17 : decode cX9_photosOf 17 = .ok (.iload_n 1, 1) := by decide +kernel
theorem dX9_photosOf_18 : decode cX9_photosOf 18 = .ok (.iaload, 1) := by decide +kernel
theorem dX9_photosOf_19 : decode cX9_photosOf 19 = .ok (.idiv, 1) := by decide +kernel
theorem dX9_photosOf_20 : decode cX9_photosOf 20 = .ok (.iconst 1, 1) := by decide +kernel
theorem dX9_photosOf_21 : decode cX9_photosOf 21 = .ok (.iadd, 1) := by decide +kernel
theorem dX9_photosOf_22 : decode cX9_photosOf 22 = .ok (.ireturn, 1) := by decide +kernel
theorem dX9_columnOf_0 : decode cX9_columnOf 0 = .ok (.aload_n 0, 1) := by decide +kernel
theorem dX9_columnOf_1 : decode cX9_columnOf 1 = .ok (.getfield 32, 3) := by decide +kernel
theorem dX9_columnOf_4 : decode cX9_columnOf 4 = .ok (.iload_n 1, 1) := by decide +kernel
theorem dX9_columnOf_5 : decode cX9_columnOf 5 = .ok (.iaload, 1) := by decide +kernel
theorem dX9_columnOf_6 : decode cX9_columnOf 6 = .ok (.iload_n 2, 1) := by decide +kernel
theorem dX9_columnOf_7 : decode cX9_columnOf 7 = .ok (.aload_n 0, 1) := by decide +kernel
theorem dX9_columnOf_8 : decode cX9_columnOf 8 = .ok (.getfield 38, 3) := by decide +kernel
theorem dX9_columnOf_11 : decode cX9_columnOf 11 = .ok (.iload_n 1, 1) := by decide +kernel
theorem dX9_columnOf_12 : decode cX9_columnOf 12 = .ok (.iaload, 1) := by decide +kernel
theorem dX9_columnOf_13 : decode cX9_columnOf 13 = .ok (.imul, 1) := by decide +kernel
theorem dX9_columnOf_14 : decode cX9_columnOf 14 = .ok (.iadd, 1) := by decide +kernel
theorem dX9_columnOf_15 : decode cX9_columnOf 15 = .ok (.ireturn, 1) := by decide +kernel
set_option maxRecDepth 20000 in
theorem ggX9_checkPhoto_X9_isStrip : GoodIn wsX9_checkPhoto wsX9_isStrip := goodIn_r _ [5, 6, 7, 8, 4, 9, 17, 18, 19, 20, 21, 22, 23, 24, 25, 26, 27, 28, 29, 30, 31, 32, 33, 34, 35, 36] (by decide +kernel) (by decide +kernel)
set_option maxRecDepth 20000 in
theorem gX9_checkPhoto_X9_isStrip : GoodIn wsX9_checkPhoto (wsV RX9 79 RX9 yX9_isStrip wsX9_isStrip) := goodIn_app (goodIn_of _ (by decide +kernel)) ggX9_checkPhoto_X9_isStrip
set_option maxRecDepth 20000 in
theorem ggX9_checkPhoto_X9_photosOf : GoodIn wsX9_checkPhoto wsX9_photosOf := goodIn_r _ [13, 14, 15, 16, 17, 18, 19, 20, 21, 22, 23, 24, 25, 26, 27, 28, 29, 30, 31, 32, 33, 34, 35, 36] (by decide +kernel) (by decide +kernel)
set_option maxRecDepth 20000 in
theorem gX9_checkPhoto_X9_photosOf : GoodIn wsX9_checkPhoto (wsV RX9 83 RX9 yX9_photosOf wsX9_photosOf) := goodIn_app (goodIn_of _ (by decide +kernel)) ggX9_checkPhoto_X9_photosOf
set_option maxRecDepth 20000 in
theorem ggX9_checkPhoto_X9_isBetween : GoodIn wsX9_checkPhoto wsX9_isBetween := goodIn_r _ [9] (by decide +kernel) (by decide +kernel)
set_option maxRecDepth 20000 in
theorem gX9_checkPhoto_X9_isBetween : GoodIn wsX9_checkPhoto (va_wsS RX9 54 yX9_isBetween wsX9_isBetween) := goodIn_app (goodIn_of _ (by decide +kernel)) ggX9_checkPhoto_X9_isBetween
theorem dX9_checkPhoto_0 : decode cX9_checkPhoto 0 = .ok (.aload_n 0, 1) := by decide +kernel
theorem dX9_checkPhoto_1 : decode cX9_checkPhoto 1 = .ok (.iload_n 1, 1) := by decide +kernel
theorem dX9_checkPhoto_2 : decode cX9_checkPhoto 2 = .ok (.invokevirtual 79, 3) := by decide +kernel
theorem dX9_checkPhoto_5 : decode cX9_checkPhoto 5 = .ok (.ifCond .ne 8, 3) := by decide +kernel
theorem dX9_checkPhoto_8 : decode cX9_checkPhoto 8 = .ok (.bipush (-2), 2) := by decide +kernel
theorem dX9_checkPhoto_10 : decode cX9_checkPhoto 10 = .ok (.goto 24, 3) := by decide +kernel
theorem dX9_checkPhoto_13 : decode cX9_checkPhoto 13 = .ok (.iload_n 2, 1) := by decide +kernel
theorem dX9_checkPhoto_14 : decode cX9_checkPhoto 14 = .ok (.iconst 0, 1) := by decide +kernel
theorem dX9_checkPhoto_15 : decode cX9_checkPhoto 15 = .ok (.aload_n 0, 1) := by decide +kernel
theorem dX9_checkPhoto_16 : decode cX9_checkPhoto 16 = .ok (.iload_n 1, 1) := by decide +kernel
theorem dX9_checkPhoto_17 : decode cX9_checkPhoto 17 = .ok (.invokevirtual 83, 3) := by decide +kernel
theorem dX9_checkPhoto_20 : decode cX9_checkPhoto 20 = .ok (.iconst 1, 1) := by decide +kernel
theorem dX9_checkPhoto_21 : decode cX9_checkPhoto 21 = .ok (.isub, 1) := by decide +kernel
theorem dX9_checkPhoto_22 : decode cX9_checkPhoto 22 = .ok (.invokestatic 54, 3) := by decide +kernel
theorem dX9_checkPhoto_25 : decode cX9_checkPhoto 25 = .ok (.ifCond .eq 7, 3) := by decide +kernel
theorem dX9_checkPhoto_28 : decode cX9_checkPhoto 28 = .ok (.iconst 0, 1) := by decide +kernel
theorem dX9_checkPhoto_29 : decode cX9_checkPhoto 29 = .ok (.goto 5, 3) := by decide +kernel
theorem dX9_checkPhoto_32 : decode cX9_checkPhoto 32 = .ok (.bipush (-3), 2) := by decide +kernel
theorem dX9_checkPhoto_34 : decode cX9_checkPhoto 34 = .ok (.ireturn, 1) := by decide +kernel
set_option maxRecDepth 20000 in
theorem ggX9_photoCount_X9_isStrip : GoodIn wsX9_photoCount wsX9_isStrip := goodIn_r _ [5, 6, 7, 8, 4, 9, 17, 18, 19, 20, 21, 22, 23, 24, 25, 26, 27, 28, 29, 30, 31, 32, 33, 34, 35, 36] (by decide +kernel) (by decide +kernel)
set_option maxRecDepth 20000 in
theorem gX9_photoCount_X9_isStrip : GoodIn wsX9_photoCount (wsV RX9 79 RX9 yX9_isStrip wsX9_isStrip) := goodIn_app (goodIn_of _ (by decide +kernel)) ggX9_photoCount_X9_isStrip
set_option maxRecDepth 20000 in
theorem ggX9_photoCount_X9_photosOf : GoodIn wsX9_photoCount wsX9_photosOf := goodIn_r _ [13, 14, 15, 16, 17, 18, 19, 20, 21, 22, 23, 24, 25, 26, 27, 28, 29, 30, 31, 32, 33, 34, 35, 36] (by decide +kernel) (by decide +kernel)
set_option maxRecDepth 20000 in
theorem gX9_photoCount_X9_photosOf : GoodIn wsX9_photoCount (wsV RX9 83 RX9 yX9_photosOf wsX9_photosOf) := goodIn_app (goodIn_of _ (by decide +kernel)) ggX9_photoCount_X9_photosOf
theorem dX9_photoCount_0 : decode cX9_photoCount 0 = .ok (.aload_n 0, 1) := by decide +kernel
theorem dX9_photoCount_1 : decode cX9_photoCount 1 = .ok (.iload_n 1, 1) := by decide +kernel
theorem dX9_photoCount_2 : decode cX9_photoCount 2 = .ok (.invokevirtual 79, 3) := by decide +kernel
theorem dX9_photoCount_5 : decode cX9_photoCount 5 = .ok (.ifCond .eq 11, 3) := by decide +kernel
theorem dX9_photoCount_8 : decode cX9_photoCount 8 = .ok (.aload_n 0, 1) := by decide +kernel
theorem dX9_photoCount_9 : decode cX9_photoCount 9 = .ok (.iload_n 1, 1) := by decide +kernel
theorem dX9_photoCount_10 : decode cX9_photoCount 10 = .ok (.invokevirtual 83, 3) := by decide +kernel
theorem dX9_photoCount_13 : decode cX9_photoCount 13 = .ok (.goto 5, 3) := by decide +kernel
theorem dX9_photoCount_16 : decode cX9_photoCount 16 = .ok (.bipush (-2), 2) := by decide +kernel
theorem dX9_photoCount_18 : decode cX9_photoCount 18 = .ok (.ireturn, 1) := by decide +kernel
set_option maxRecDepth 20000 in
theorem ggX9_photoColumn_X9_checkPhoto : GoodIn wsX9_photoColumn wsX9_checkPhoto := goodIn_r _ [5, 6, 7, 8, 4, 9, 10, 11, 12, 13, 14, 15, 16, 17, 18, 19, 20, 25, 26, 27, 28, 29, 30, 31, 32, 33, 34, 35, 36, 37, 38, 39, 40, 41, 42, 43, 44] (by decide +kernel) (by decide +kernel)
set_option maxRecDepth 20000 in
theorem gX9_photoColumn_X9_checkPhoto : GoodIn wsX9_photoColumn (wsV RX9 86 RX9 yX9_checkPhoto wsX9_checkPhoto) := goodIn_app (goodIn_of _ (by decide +kernel)) ggX9_photoColumn_X9_checkPhoto
set_option maxRecDepth 20000 in
theorem ggX9_photoColumn_X9_columnOf : GoodIn wsX9_photoColumn wsX9_columnOf := goodIn_r _ [24, 19, 20, 25, 26, 27, 28, 29, 30, 31, 32, 33, 34, 35, 36, 37, 38, 39, 40, 41, 42, 43, 44] (by decide +kernel) (by decide +kernel)
set_option maxRecDepth 20000 in
theorem gX9_photoColumn_X9_columnOf : GoodIn wsX9_photoColumn (wsV RX9 90 RX9 yX9_columnOf wsX9_columnOf) := goodIn_app (goodIn_of _ (by decide +kernel)) ggX9_photoColumn_X9_columnOf
theorem dX9_photoColumn_0 : decode cX9_photoColumn 0 = .ok (.aload_n 0, 1) := by decide +kernel
theorem dX9_photoColumn_1 : decode cX9_photoColumn 1 = .ok (.iload_n 1, 1) := by decide +kernel
theorem dX9_photoColumn_2 : decode cX9_photoColumn 2 = .ok (.iload_n 2, 1) := by decide +kernel
theorem dX9_photoColumn_3 : decode cX9_photoColumn 3 = .ok (.invokevirtual 86, 3) := by decide +kernel
theorem dX9_photoColumn_6 : decode cX9_photoColumn 6 = .ok (.istore_n 3, 1) := by decide +kernel
theorem dX9_photoColumn_7 : decode cX9_photoColumn 7 = .ok (.iload_n 3, 1) := by decide +kernel
theorem dX9_photoColumn_8 : decode cX9_photoColumn 8 = .ok (.ifCond .ge 7, 3) := by decide +kernel
theorem dX9_photoColumn_11 : decode cX9_photoColumn 11 = .ok (.iload_n 3, 1) := by decide +kernel
theorem dX9_photoColumn_12 : decode cX9_photoColumn 12 = .ok (.goto 9, 3) := by decide +kernel
theorem dX9_photoColumn_15 : decode cX9_photoColumn 15 = .ok (.aload_n 0, 1) := by decide +kernel
theorem dX9_photoColumn_16 : decode cX9_photoColumn 16 = .ok (.iload_n 1, 1) := by decide +kernel
theorem dX9_photoColumn_17 : decode cX9_photoColumn 17 = .ok (.iload_n 2, 1) := by decide +kernel
theorem dX9_photoColumn_18 : decode cX9_photoColumn 18 = .ok (.invokevirtual 90, 3) := by decide +kernel
theorem dX9_photoColumn_21 : decode cX9_photoColumn 21 = .ok (.ireturn, 1) := by decide +kernel
theorem dX9_nearest_0 : decode cX9_nearest 0 = .ok (.iconst 2, 1) := by decide +kernel
theorem dX9_nearest_1 : decode cX9_nearest 1 = .ok (.iload_n 0, 1) := by decide +kernel
theorem dX9_nearest_2 : decode cX9_nearest 2 = .ok (.imul, 1) := by decide +kernel
theorem dX9_nearest_3 : decode cX9_nearest 3 = .ok (.iload_n 1, 1) := by decide +kernel
theorem dX9_nearest_4 : decode cX9_nearest 4 = .ok (.iadd, 1) := by decide +kernel
theorem dX9_nearest_5 : decode cX9_nearest 5 = .ok (.istore_n 2, 1) := by decide +kernel
theorem dX9_nearest_6 : decode cX9_nearest 6 = .ok (.iconst 2, 1) := by decide +kernel
theorem dX9_nearest_7 : decode cX9_nearest 7 = .ok (.iload_n 1, 1) := by decide +kernel
theorem dX9_nearest_8 : decode cX9_nearest 8 = .ok (.imul, 1) := by decide +kernel
theorem dX9_nearest_9 : decode cX9_nearest 9 = .ok (.istore_n 3, 1) := by decide +kernel
theorem dX9_nearest_10 : decode cX9_nearest 10 = .ok (.iload_n 2, 1) := by decide +kernel
theorem dX9_nearest_11 : decode cX9_nearest 11 = .ok (.iload_n 3, 1) := by decide +kernel
theorem dX9_nearest_12 : decode cX9_nearest 12 = .ok (.idiv, 1) := by decide +kernel
theorem dX9_nearest_13 : decode cX9_nearest 13 = .ok (.istore 4, 2) := by decide +kernel
theorem dX9_nearest_15 : decode cX9_nearest 15 = .ok (.iload 4, 2) := by decide +kernel
theorem dX9_nearest_17 : decode cX9_nearest 17 = .ok (.iload_n 3, 1) := by decide +kernel
theorem dX9_nearest_18 : decode cX9_nearest 18 = .ok (.imul, 1) := by decide +kernel
theorem dX9_nearest_19 : decode cX9_nearest 19 = .ok (.iload_n 2, 1) := by decide +kernel
theorem dX9_nearest_20 : decode cX9_nearest 20 = .ok (.if_icmp .le 10, 3) := by decide +kernel
theorem dX9_nearest_23 : decode cX9_nearest 23 = .ok (.iload 4, 2) := by decide +kernel
theorem dX9_nearest_25 : decode cX9_nearest 25 = .ok (.iconst 1, 1) := by decide +kernel
theorem dX9_nearest_26 : decode cX9_nearest 26 = .ok (.isub, 1) := by decide +kernel
theorem dX9_nearest_27 : decode cX9_nearest 27 = .ok (.goto 5, 3) := by decide +kernel
theorem dX9_nearest_30 : decode cX9_nearest 30 = .ok (.iload 4, 2) := by decide +kernel
theorem dX9_nearest_32 : decode cX9_nearest 32 = .ok (.ireturn, 1) := by decide +kernel
set_option maxRecDepth 20000 in
theorem ggX9_isBlocked_X9_size : GoodIn wsX9_isBlocked wsX9_size := goodIn_r _ [6] (by decide +kernel) (by decide +kernel)
set_option maxRecDepth 20000 in
theorem gX9_isBlocked_X9_size : GoodIn wsX9_isBlocked (va_wsS RX9 65 yX9_size wsX9_size) := goodIn_app (goodIn_of _ (by decide +kernel)) ggX9_isBlocked_X9_size
set_option maxRecDepth 20000 in
theorem ggX9_isBlocked_X9_nearest : GoodIn wsX9_isBlocked wsX9_nearest := goodIn_r _ [9] (by decide +kernel) (by decide +kernel)
set_option maxRecDepth 20000 in
theorem gX9_isBlocked_X9_nearest : GoodIn wsX9_isBlocked (va_wsS RX9 93 yX9_nearest wsX9_nearest) := goodIn_app (goodIn_of _ (by decide +kernel)) ggX9_isBlocked_X9_nearest
theorem dX9_isBlocked_0 : decode cX9_isBlocked 0 = .ok (.iload_n 3, 1) := by decide +kernel
theorem dX9_isBlocked_1 : decode cX9_isBlocked 1 = .ok (.invokestatic 65, 3) := by decide +kernel
theorem dX9_isBlocked_4 : decode cX9_isBlocked 4 = .ok (.iload 4, 2) := by decide +kernel
theorem dX9_isBlocked_6 : decode cX9_isBlocked 6 = .ok (.invokestatic 65, 3) := by decide +kernel
theorem dX9_isBlocked_9 : decode cX9_isBlocked 9 = .ok (.if_icmp .le 10, 3) := by decide +kernel
theorem dX9_isBlocked_12 : decode cX9_isBlocked 12 = .ok (.iload_n 3, 1) := by decide +kernel
theorem dX9_isBlocked_13 : decode cX9_isBlocked 13 = .ok (.invokestatic 65, 3) := by decide +kernel
theorem dX9_isBlocked_16 : decode cX9_isBlocked 16 = .ok (.goto 8, 3) := by decide +kernel
theorem dX9_isBlocked_19 : decode cX9_isBlocked 19 = .ok (.iload 4, 2) := by decide +kernel
theorem dX9_isBlocked_21 : decode cX9_isBlocked 21 = .ok (.invokestatic 65, 3) := by decide +kernel
theorem dX9_isBlocked_24 : decode cX9_isBlocked 24 = .ok (.istore 6, 2) := by decide +kernel
theorem dX9_isBlocked_26 : decode cX9_isBlocked 26 = .ok (.iconst 1, 1) := by decide +kernel
theorem dX9_isBlocked_27 : decode cX9_isBlocked 27 = .ok (.istore 7, 2) := by decide +kernel
theorem dX9_isBlocked_29 : decode cX9_isBlocked 29 = .ok (.iload 7, 2) := by decide +kernel
theorem dX9_isBlocked_31 : decode cX9_isBlocked 31 = .ok (.iload 6, 2) := by decide +kernel
theorem dX9_isBlocked_33 : decode cX9_isBlocked 33 = .ok (.if_icmp .ge 75, 3) := by decide +kernel
theorem dX9_isBlocked_36 : decode cX9_isBlocked 36 = .ok (.iload_n 1, 1) := by decide +kernel
theorem dX9_isBlocked_37 : decode cX9_isBlocked 37 = .ok (.iload 7, 2) := by decide +kernel
theorem dX9_isBlocked_39 : decode cX9_isBlocked 39 = .ok (.iload_n 3, 1) := by decide +kernel
theorem dX9_isBlocked_40 : decode cX9_isBlocked 40 = .ok (.imul, 1) := by decide +kernel
theorem dX9_isBlocked_41 : decode cX9_isBlocked 41 = .ok (.iload 6, 2) := by decide +kernel
theorem dX9_isBlocked_43 : decode cX9_isBlocked 43 = .ok (.invokestatic 93, 3) := by decide +kernel
theorem dX9_isBlocked_46 : decode cX9_isBlocked 46 = .ok (.iadd, 1) := by decide +kernel
theorem dX9_isBlocked_47 : decode cX9_isBlocked 47 = .ok (.istore 8, 2) := by decide +kernel
theorem dX9_isBlocked_49 : decode cX9_isBlocked 49 = .ok (.iload_n 2, 1) := by decide +kernel
theorem dX9_isBlocked_50 : decode cX9_isBlocked 50 = .ok (.iload 7, 2) := by decide +kernel
theorem dX9_isBlocked_52 : decode cX9_isBlocked 52 = .ok (.iload 4, 2) := by decide +kernel
theorem dX9_isBlocked_54 : decode cX9_isBlocked 54 = .ok (.imul, 1) := by decide +kernel
theorem dX9_isBlocked_55 : decode cX9_isBlocked 55 = .ok (.iload 6, 2) := by decide +kernel
theorem dX9_isBlocked_57 : decode cX9_isBlocked 57 = .ok (.invokestatic 93, 3) := by decide +kernel
theorem dX9_isBlocked_60 : decode cX9_isBlocked 60 = .ok (.iadd, 1) := by decide +kernel
theorem dX9_isBlocked_61 : decode cX9_isBlocked 61 = .ok (.istore 9, 2) := by decide +kernel
theorem dX9_isBlocked_63 : decode cX9_isBlocked 63 = .ok (.aload_n 0, 1) := by decide +kernel
theorem dX9_isBlocked_64 : decode cX9_isBlocked 64 = .ok (.getfield 25, 3) := by decide +kernel
theorem dX9_isBlocked_67 : decode cX9_isBlocked 67 = .ok (.bipush 16, 2) := by decide +kernel
theorem dX9_isBlocked_69 : decode cX9_isBlocked 69 = .ok (.iload 8, 2) := by decide +kernel
theorem dX9_isBlocked_71 : decode cX9_isBlocked 71 = .ok (.imul, 1) := by decide +kernel
theorem dX9_isBlocked_72 : decode cX9_isBlocked 72 = .ok (.iload 9, 2) := by decide +kernel
theorem dX9_isBlocked_74 : decode cX9_isBlocked 74 = .ok (.iadd, 1) := by decide +kernel
theorem dX9_isBlocked_75 : decode cX9_isBlocked 75 = .ok (.iaload, 1) := by decide +kernel
theorem dX9_isBlocked_76 : decode cX9_isBlocked 76 = .ok (.iload 6, 2) := by decide +kernel
theorem dX9_isBlocked_78 : decode cX9_isBlocked 78 = .ok (.imul, 1) := by decide +kernel
theorem dX9_isBlocked_79 : decode cX9_isBlocked 79 = .ok (.aload_n 0, 1) := by decide +kernel
theorem dX9_isBlocked_80 : decode cX9_isBlocked 80 = .ok (.getfield 7, 3) := by decide +kernel
theorem dX9_isBlocked_83 : decode cX9_isBlocked 83 = .ok (.iload 6, 2) := by decide +kernel
theorem dX9_isBlocked_85 : decode cX9_isBlocked 85 = .ok (.imul, 1) := by decide +kernel
theorem dX9_isBlocked_86 : decode cX9_isBlocked 86 = .ok (.iload 5, 2) := by decide +kernel
theorem dX9_isBlocked_88 : decode cX9_isBlocked 88 = .ok (.aload_n 0, 1) := by decide +kernel
theorem dX9_isBlocked_89 : decode cX9_isBlocked 89 = .ok (.getfield 7, 3) := by decide +kernel
theorem dX9_isBlocked_92 : decode cX9_isBlocked 92 = .ok (.isub, 1) := by decide +kernel
theorem dX9_isBlocked_93 : decode cX9_isBlocked 93 = .ok (.iload 7, 2) := by decide +kernel
theorem dX9_isBlocked_95 : decode cX9_isBlocked 95 = .ok (.imul, 1) := by decide +kernel
theorem dX9_isBlocked_96 : decode cX9_isBlocked 96 = .ok (.iadd, 1) := by decide +kernel
theorem dX9_isBlocked_97 : decode cX9_isBlocked 97 = .ok (.if_icmp .le 5, 3) := by decide +kernel
theorem dX9_isBlocked_100 : decode cX9_isBlocked 100 = .ok (.iconst 1, 1) := by decide +kernel
theorem dX9_isBlocked_101 : decode cX9_isBlocked 101 = .ok (.ireturn, 1) := by decide +kernel
theorem dX9_isBlocked_102 : decode cX9_isBlocked 102 = .ok (.iinc 7 1, 3) := by decide +kernel
theorem dX9_isBlocked_105 : decode cX9_isBlocked 105 = .ok (.goto (-76), 3) := by decide +kernel
theorem dX9_isBlocked_108 : decode cX9_isBlocked 108 = .ok (.iconst 0, 1) := by decide +kernel
theorem dX9_isBlocked_109 : decode cX9_isBlocked 109 = .ok (.ireturn, 1) := by decide +kernel
set_option maxRecDepth 20000 in
theorem ggX9_sees_X9_size : GoodIn wsX9_sees wsX9_size := goodIn_r _ [9] (by decide +kernel) (by decide +kernel)
set_option maxRecDepth 20000 in
theorem gX9_sees_X9_size : GoodIn wsX9_sees (va_wsS RX9 65 yX9_size wsX9_size) := goodIn_app (goodIn_of _ (by decide +kernel)) ggX9_sees_X9_size
set_option maxRecDepth 20000 in
theorem ggX9_sees_X9_isBlocked : GoodIn wsX9_sees wsX9_isBlocked := goodIn_r _ [13, 1, 2, 6, 7, 8, 9, 14, 15, 16, 17, 18, 19, 20, 21, 22, 23, 24, 25, 26, 27, 28, 29, 30, 31, 32, 33, 34, 35, 36] (by decide +kernel) (by decide +kernel)
set_option maxRecDepth 20000 in
theorem gX9_sees_X9_isBlocked : GoodIn wsX9_sees (wsV RX9 96 RX9 yX9_isBlocked wsX9_isBlocked) := goodIn_app (goodIn_of _ (by decide +kernel)) ggX9_sees_X9_isBlocked
theorem dX9_sees_0 : decode cX9_sees 0 = .ok (.aload_n 0, 1) := by decide +kernel
theorem dX9_sees_1 : decode cX9_sees 1 = .ok (.getfield 25, 3) := by decide +kernel
theorem dX9_sees_4 : decode cX9_sees 4 = .ok (.bipush 16, 2) := by decide +kernel
theorem dX9_sees_6 : decode cX9_sees 6 = .ok (.iload_n 3, 1) := by decide +kernel
theorem dX9_sees_7 : decode cX9_sees 7 = .ok (.imul, 1) := by decide +kernel
theorem dX9_sees_8 : decode cX9_sees 8 = .ok (.iload 4, 2) := by decide +kernel
theorem dX9_sees_10 : decode cX9_sees 10 = .ok (.iadd, 1) := by decide +kernel
theorem dX9_sees_11 : decode cX9_sees 11 = .ok (.iaload, 1) := by decide +kernel
theorem dX9_sees_12 : decode cX9_sees 12 = .ok (.istore 5, 2) := by decide +kernel
theorem dX9_sees_14 : decode cX9_sees 14 = .ok (.iload_n 3, 1) := by decide +kernel
theorem dX9_sees_15 : decode cX9_sees 15 = .ok (.iload_n 1, 1) := by decide +kernel
theorem dX9_sees_16 : decode cX9_sees 16 = .ok (.isub, 1) := by decide +kernel
theorem dX9_sees_17 : decode cX9_sees 17 = .ok (.istore 6, 2) := by decide +kernel
theorem dX9_sees_19 : decode cX9_sees 19 = .ok (.iload 4, 2) := by decide +kernel
theorem dX9_sees_21 : decode cX9_sees 21 = .ok (.iload_n 2, 1) := by decide +kernel
theorem dX9_sees_22 : decode cX9_sees 22 = .ok (.isub, 1) := by decide +kernel
theorem dX9_sees_23 : decode cX9_sees 23 = .ok (.istore 7, 2) := by decide +kernel
theorem dX9_sees_25 : decode cX9_sees 25 = .ok (.aload_n 0, 1) := by decide +kernel
theorem dX9_sees_26 : decode cX9_sees 26 = .ok (.getfield 7, 3) := by decide +kernel
theorem dX9_sees_29 : decode cX9_sees 29 = .ok (.iload 5, 2) := by decide +kernel
theorem dX9_sees_31 : decode cX9_sees 31 = .ok (.if_icmp .le 71, 3) := by decide +kernel
theorem dX9_sees_34 : decode cX9_sees 34 = .ok (.bipush 100, 2) := by decide +kernel
theorem dX9_sees_36 : decode cX9_sees 36 = .ok (.iload 7, 2) := by decide +kernel
theorem dX9_sees_38 : decode cX9_sees 38 = .ok (.imul, 1) := by decide +kernel
theorem dX9_sees_39 : decode cX9_sees 39 = .ok (.aload_n 0, 1) := by decide +kernel
theorem dX9_sees_40 : decode cX9_sees 40 = .ok (.getfield 69, 3) := by decide +kernel
theorem dX9_sees_43 : decode cX9_sees 43 = .ok (.iload 6, 2) := by decide +kernel
theorem dX9_sees_45 : decode cX9_sees 45 = .ok (.imul, 1) := by decide +kernel
theorem dX9_sees_46 : decode cX9_sees 46 = .ok (.iadd, 1) := by decide +kernel
theorem dX9_sees_47 : decode cX9_sees 47 = .ok (.invokestatic 65, 3) := by decide +kernel
theorem dX9_sees_50 : decode cX9_sees 50 = .ok (.aload_n 0, 1) := by decide +kernel
theorem dX9_sees_51 : decode cX9_sees 51 = .ok (.getfield 7, 3) := by decide +kernel
theorem dX9_sees_54 : decode cX9_sees 54 = .ok (.iload 5, 2) := by decide +kernel
theorem dX9_sees_56 : decode cX9_sees 56 = .ok (.isub, 1) := by decide +kernel
theorem dX9_sees_57 : decode cX9_sees 57 = .ok (.aload_n 0, 1) := by decide +kernel
theorem dX9_sees_58 : decode cX9_sees 58 = .ok (.getfield 13, 3) := by decide +kernel
theorem dX9_sees_61 : decode cX9_sees 61 = .ok (.imul, 1) := by decide +kernel
theorem dX9_sees_62 : decode cX9_sees 62 = .ok (.bipush 10, 2) := by decide +kernel
theorem dX9_sees_64 : decode cX9_sees 64 = .ok (.idiv, 1) := by decide +kernel
theorem dX9_sees_65 : decode cX9_sees 65 = .ok (.if_icmp .gt 37, 3) := by decide +kernel
theorem dX9_sees_68 : decode cX9_sees 68 = .ok (.bipush 100, 2) := by decide +kernel
theorem dX9_sees_70 : decode cX9_sees 70 = .ok (.iload 6, 2) := by decide +kernel
theorem dX9_sees_72 : decode cX9_sees 72 = .ok (.imul, 1) := by decide +kernel
theorem dX9_sees_73 : decode cX9_sees 73 = .ok (.aload_n 0, 1) := by decide +kernel
theorem dX9_sees_74 : decode cX9_sees 74 = .ok (.getfield 69, 3) := by decide +kernel
theorem dX9_sees_77 : decode cX9_sees 77 = .ok (.iload 7, 2) := by decide +kernel
theorem dX9_sees_79 : decode cX9_sees 79 = .ok (.imul, 1) := by decide +kernel
theorem dX9_sees_80 : decode cX9_sees 80 = .ok (.isub, 1) := by decide +kernel
theorem dX9_sees_81 : decode cX9_sees 81 = .ok (.invokestatic 65, 3) := by decide +kernel
theorem dX9_sees_84 : decode cX9_sees 84 = .ok (.aload_n 0, 1) := by decide +kernel
theorem dX9_sees_85 : decode cX9_sees 85 = .ok (.getfield 7, 3) := by decide +kernel
theorem dX9_sees_88 : decode cX9_sees 88 = .ok (.iload 5, 2) := by decide +kernel
theorem dX9_sees_90 : decode cX9_sees 90 = .ok (.isub, 1) := by decide +kernel
theorem dX9_sees_91 : decode cX9_sees 91 = .ok (.aload_n 0, 1) := by decide +kernel
theorem dX9_sees_92 : decode cX9_sees 92 = .ok (.getfield 16, 3) := by decide +kernel
theorem dX9_sees_95 : decode cX9_sees 95 = .ok (.imul, 1) := by decide +kernel
theorem dX9_sees_96 : decode cX9_sees 96 = .ok (.bipush 10, 2) := by decide +kernel
theorem dX9_sees_98 : decode cX9_sees 98 = .ok (.idiv, 1) := by decide +kernel
theorem dX9_sees_99 : decode cX9_sees 99 = .ok (.if_icmp .le 5, 3) := by decide +kernel
theorem dX9_sees_102 : decode cX9_sees 102 = .ok (.iconst 0, 1) := by decide +kernel
theorem dX9_sees_103 : decode cX9_sees 103 = .ok (.ireturn, 1) := by decide +kernel
theorem dX9_sees_104 : decode cX9_sees 104 = .ok (.aload_n 0, 1) := by decide +kernel
theorem dX9_sees_105 : decode cX9_sees 105 = .ok (.iload_n 1, 1) := by decide +kernel
theorem dX9_sees_106 : decode cX9_sees 106 = .ok (.iload_n 2, 1) := by decide +kernel
theorem dX9_sees_107 : decode cX9_sees 107 = .ok (.iload 6, 2) := by decide +kernel
theorem dX9_sees_109 : decode cX9_sees 109 = .ok (.iload 7, 2) := by decide +kernel
theorem dX9_sees_111 : decode cX9_sees 111 = .ok (.iload 5, 2) := by decide +kernel
theorem dX9_sees_113 : decode cX9_sees 113 = .ok (.invokevirtual 96, 3) := by decide +kernel
theorem dX9_sees_116 : decode cX9_sees 116 = .ok (.ifCond .ne 7, 3) := by decide +kernel
theorem dX9_sees_119 : decode cX9_sees 119 = .ok (.iconst 1, 1) := by decide +kernel
theorem dX9_sees_120 : decode cX9_sees 120 = .ok (.goto 4, 3) := by decide +kernel
theorem dX9_sees_123 : decode cX9_sees 123 = .ok (.iconst 0, 1) := by decide +kernel
theorem dX9_sees_124 : decode cX9_sees 124 = .ok (.ireturn, 1) := by decide +kernel
set_option maxRecDepth 20000 in
theorem ggX9_photoSees_X9_columnOf : GoodIn wsX9_photoSees wsX9_columnOf := goodIn_r _ [7, 8, 9, 29, 30, 31, 32, 33, 34, 35, 36, 37, 38, 39, 40, 41, 42, 43, 44, 45, 46, 47, 48] (by decide +kernel) (by decide +kernel)
set_option maxRecDepth 20000 in
theorem gX9_photoSees_X9_columnOf : GoodIn wsX9_photoSees (wsV RX9 90 RX9 yX9_columnOf wsX9_columnOf) := goodIn_app (goodIn_of _ (by decide +kernel)) ggX9_photoSees_X9_columnOf
set_option maxRecDepth 20000 in
theorem ggX9_photoSees_X9_sees : GoodIn wsX9_photoSees wsX9_sees := goodIn_r _ [13, 14, 15, 16, 17, 18, 19, 20, 6, 21, 22, 23, 24, 25, 26, 27, 28, 29, 30, 31, 32, 33, 34, 35, 36, 37, 38, 39, 40, 41, 42, 43, 44, 45, 46, 47, 48] (by decide +kernel) (by decide +kernel)
set_option maxRecDepth 20000 in
theorem gX9_photoSees_X9_sees : GoodIn wsX9_photoSees (wsV RX9 100 RX9 yX9_sees wsX9_sees) := goodIn_app (goodIn_of _ (by decide +kernel)) ggX9_photoSees_X9_sees
theorem dX9_photoSees_0 : decode cX9_photoSees 0 = .ok (.aload_n 0, 1) := by decide +kernel
theorem dX9_photoSees_1 : decode cX9_photoSees 1 = .ok (.aload_n 0, 1) := by decide +kernel
theorem dX9_photoSees_2 : decode cX9_photoSees 2 = .ok (.getfield 29, 3) := by decide +kernel
theorem dX9_photoSees_5 : decode cX9_photoSees 5 = .ok (.iload_n 1, 1) := by decide +kernel
theorem dX9_photoSees_6 : decode cX9_photoSees 6 = .ok (.iaload, 1) := by decide +kernel
theorem dX9_photoSees_7 : decode cX9_photoSees 7 = .ok (.aload_n 0, 1) := by decide +kernel
theorem dX9_photoSees_8 : decode cX9_photoSees 8 = .ok (.iload_n 1, 1) := by decide +kernel
theorem dX9_photoSees_9 : decode cX9_photoSees 9 = .ok (.iload_n 2, 1) := by decide +kernel
theorem dX9_photoSees_10 : decode cX9_photoSees 10 = .ok (.invokevirtual 90, 3) := by decide +kernel
theorem dX9_photoSees_13 : decode cX9_photoSees 13 = .ok (.iload_n 3, 1) := by decide +kernel
theorem dX9_photoSees_14 : decode cX9_photoSees 14 = .ok (.aload_n 0, 1) := by decide +kernel
theorem dX9_photoSees_15 : decode cX9_photoSees 15 = .ok (.getfield 51, 3) := by decide +kernel
theorem dX9_photoSees_18 : decode cX9_photoSees 18 = .ok (.idiv, 1) := by decide +kernel
theorem dX9_photoSees_19 : decode cX9_photoSees 19 = .ok (.iload_n 3, 1) := by decide +kernel
theorem dX9_photoSees_20 : decode cX9_photoSees 20 = .ok (.aload_n 0, 1) := by decide +kernel
theorem dX9_photoSees_21 : decode cX9_photoSees 21 = .ok (.getfield 51, 3) := by decide +kernel
theorem dX9_photoSees_24 : decode cX9_photoSees 24 = .ok (.irem, 1) := by decide +kernel
theorem dX9_photoSees_25 : decode cX9_photoSees 25 = .ok (.invokevirtual 100, 3) := by decide +kernel
theorem dX9_photoSees_28 : decode cX9_photoSees 28 = .ok (.ireturn, 1) := by decide +kernel
set_option maxRecDepth 20000 in
theorem ggX9_seesCell_X9_checkPhoto : GoodIn wsX9_seesCell wsX9_checkPhoto := goodIn_r _ [6, 7, 8, 9, 5, 10, 11, 12, 13, 14, 15, 16, 17, 18, 19, 20, 21, 51, 52, 53, 54, 55, 56, 57, 58, 59, 60, 61, 62, 63, 64, 65, 66, 67, 68, 69, 70] (by decide +kernel) (by decide +kernel)
set_option maxRecDepth 20000 in
theorem gX9_seesCell_X9_checkPhoto : GoodIn wsX9_seesCell (wsV RX9 86 RX9 yX9_checkPhoto wsX9_checkPhoto) := goodIn_app (goodIn_of _ (by decide +kernel)) ggX9_seesCell_X9_checkPhoto
set_option maxRecDepth 20000 in
theorem ggX9_seesCell_X9_isCell : GoodIn wsX9_seesCell wsX9_isCell := goodIn_r _ [25, 26, 27, 12, 13, 5, 14, 51, 52, 53, 54, 55, 56, 57, 58, 59, 60, 61, 62, 63, 64, 65, 66, 67, 68, 69, 70] (by decide +kernel) (by decide +kernel)
set_option maxRecDepth 20000 in
theorem gX9_seesCell_X9_isCell : GoodIn wsX9_seesCell (wsV RX9 61 RX9 yX9_isCell wsX9_isCell) := goodIn_app (goodIn_of _ (by decide +kernel)) ggX9_seesCell_X9_isCell
set_option maxRecDepth 20000 in
theorem ggX9_seesCell_X9_columnOf : GoodIn wsX9_seesCell wsX9_columnOf := goodIn_r _ [31, 20, 21, 51, 52, 53, 54, 55, 56, 57, 58, 59, 60, 61, 62, 63, 64, 65, 66, 67, 68, 69, 70] (by decide +kernel) (by decide +kernel)
set_option maxRecDepth 20000 in
theorem gX9_seesCell_X9_columnOf : GoodIn wsX9_seesCell (wsV RX9 90 RX9 yX9_columnOf wsX9_columnOf) := goodIn_app (goodIn_of _ (by decide +kernel)) ggX9_seesCell_X9_columnOf
set_option maxRecDepth 20000 in
theorem ggX9_seesCell_X9_sees : GoodIn wsX9_seesCell wsX9_sees := goodIn_r _ [35, 36, 37, 38, 39, 40, 41, 42, 5, 43, 44, 45, 46, 47, 48, 49, 50, 51, 52, 53, 54, 55, 56, 57, 58, 59, 60, 61, 62, 63, 64, 65, 66, 67, 68, 69, 70] (by decide +kernel) (by decide +kernel)
set_option maxRecDepth 20000 in
theorem gX9_seesCell_X9_sees : GoodIn wsX9_seesCell (wsV RX9 100 RX9 yX9_sees wsX9_sees) := goodIn_app (goodIn_of _ (by decide +kernel)) ggX9_seesCell_X9_sees
theorem dX9_seesCell_0 : decode cX9_seesCell 0 = .ok (.aload_n 0, 1) := by decide +kernel
theorem dX9_seesCell_1 : decode cX9_seesCell 1 = .ok (.iload_n 1, 1) := by decide +kernel
theorem dX9_seesCell_2 : decode cX9_seesCell 2 = .ok (.iload_n 2, 1) := by decide +kernel
theorem dX9_seesCell_3 : decode cX9_seesCell 3 = .ok (.invokevirtual 86, 3) := by decide +kernel
theorem dX9_seesCell_6 : decode cX9_seesCell 6 = .ok (.istore 5, 2) := by decide +kernel
theorem dX9_seesCell_8 : decode cX9_seesCell 8 = .ok (.iload 5, 2) := by decide +kernel
theorem dX9_seesCell_10 : decode cX9_seesCell 10 = .ok (.ifCond .ge 6, 3) := by decide +kernel
theorem dX9_seesCell_13 : decode cX9_seesCell 13 = .ok (.iload 5, 2) := by decide +kernel
theorem dX9_seesCell_15 : decode cX9_seesCell 15 = .ok (.ireturn, 1) := by decide +kernel
theorem dX9_seesCell_16 : decode cX9_seesCell 16 = .ok (.aload_n 0, 1) := by decide +kernel
theorem dX9_seesCell_17 : decode cX9_seesCell 17 = .ok (.iload_n 3, 1) := by decide +kernel
theorem dX9_seesCell_18 : decode cX9_seesCell 18 = .ok (.iload 4, 2) := by decide +kernel
theorem dX9_seesCell_20 : decode cX9_seesCell 20 = .ok (.invokevirtual 61, 3) := by decide +kernel
theorem dX9_seesCell_23 : decode cX9_seesCell 23 = .ok (.ifCond .ne 5, 3) := by decide +kernel
theorem dX9_seesCell_26 : decode cX9_seesCell 26 = .ok (.iconst (-1), 1) := by decide +kernel
theorem dX9_seesCell_27 : decode cX9_seesCell 27 = .ok (.ireturn, 1) := by decide +kernel
theorem dX9_seesCell_28 : decode cX9_seesCell 28 = .ok (.aload_n 0, 1) := by decide +kernel
theorem dX9_seesCell_29 : decode cX9_seesCell 29 = .ok (.aload_n 0, 1) := by decide +kernel
theorem dX9_seesCell_30 : decode cX9_seesCell 30 = .ok (.getfield 29, 3) := by decide +kernel
theorem dX9_seesCell_33 : decode cX9_seesCell 33 = .ok (.iload_n 1, 1) := by decide +kernel
theorem dX9_seesCell_34 : decode cX9_seesCell 34 = .ok (.iaload, 1) := by decide +kernel
theorem dX9_seesCell_35 : decode cX9_seesCell 35 = .ok (.aload_n 0, 1) := by decide +kernel
theorem dX9_seesCell_36 : decode cX9_seesCell 36 = .ok (.iload_n 1, 1) := by decide +kernel
theorem dX9_seesCell_37 : decode cX9_seesCell 37 = .ok (.iload_n 2, 1) := by decide +kernel
theorem dX9_seesCell_38 : decode cX9_seesCell 38 = .ok (.invokevirtual 90, 3) := by decide +kernel
theorem dX9_seesCell_41 : decode cX9_seesCell 41 = .ok (.iload_n 3, 1) := by decide +kernel
theorem dX9_seesCell_42 : decode cX9_seesCell 42 = .ok (.iload 4, 2) := by decide +kernel
theorem dX9_seesCell_44 : decode cX9_seesCell 44 = .ok (.invokevirtual 100, 3) := by decide +kernel
theorem dX9_seesCell_47 : decode cX9_seesCell 47 = .ok (.ifCond .eq 7, 3) := by decide +kernel
theorem dX9_seesCell_50 : decode cX9_seesCell 50 = .ok (.iconst 1, 1) := by decide +kernel
theorem dX9_seesCell_51 : decode cX9_seesCell 51 = .ok (.goto 4, 3) := by decide +kernel
theorem dX9_seesCell_54 : decode cX9_seesCell 54 = .ok (.iconst 0, 1) := by decide +kernel
theorem dX9_seesCell_55 : decode cX9_seesCell 55 = .ok (.ireturn, 1) := by decide +kernel
set_option maxRecDepth 20000 in
theorem ggX9_footprint_X9_photoSees : GoodIn wsX9_footprint wsX9_photoSees := goodIn_r _ [7, 8, 2, 9, 10, 11, 6, 12, 13, 14, 15, 16, 17, 18, 19, 20, 21, 22, 23, 24, 25, 26, 27, 28, 29, 30, 31, 32, 33, 34, 35, 36, 37, 38, 39, 40, 41, 42, 43, 44, 45, 46, 47, 48, 49, 50, 51, 52, 53] (by decide +kernel) (by decide +kernel)
set_option maxRecDepth 20000 in
theorem gX9_footprint_X9_photoSees : GoodIn wsX9_footprint (wsV RX9 104 RX9 yX9_photoSees wsX9_photoSees) := goodIn_app (goodIn_of _ (by decide +kernel)) ggX9_footprint_X9_photoSees
theorem dX9_footprint_0 : decode cX9_footprint 0 = .ok (.iconst 0, 1) := by decide +kernel
theorem dX9_footprint_1 : decode cX9_footprint 1 = .ok (.istore_n 3, 1) := by decide +kernel
theorem dX9_footprint_2 : decode cX9_footprint 2 = .ok (.iconst 0, 1) := by decide +kernel
theorem dX9_footprint_3 : decode cX9_footprint 3 = .ok (.istore 4, 2) := by decide +kernel
theorem dX9_footprint_5 : decode cX9_footprint 5 = .ok (.iload 4, 2) := by decide +kernel
theorem dX9_footprint_7 : decode cX9_footprint 7 = .ok (.aload_n 0, 1) := by decide +kernel
theorem dX9_footprint_8 : decode cX9_footprint 8 = .ok (.getfield 48, 3) := by decide +kernel
theorem dX9_footprint_11 : decode cX9_footprint 11 = .ok (.aload_n 0, 1) := by decide +kernel
theorem dX9_footprint_12 : decode cX9_footprint 12 = .ok (.getfield 51, 3) := by decide +kernel
theorem dX9_footprint_15 : decode cX9_footprint 15 = .ok (.imul, 1) := by decide +kernel
theorem dX9_footprint_16 : decode cX9_footprint 16 = .ok (.if_icmp .ge 28, 3) := by decide +kernel
theorem dX9_footprint_19 : decode cX9_footprint 19 = .ok (.iload_n 3, 1) := by decide +kernel
theorem dX9_footprint_20 : decode cX9_footprint 20 = .ok (.aload_n 0, 1) := by decide +kernel
theorem dX9_footprint_21 : decode cX9_footprint 21 = .ok (.iload_n 1, 1) := by decide +kernel
theorem dX9_footprint_22 : decode cX9_footprint 22 = .ok (.iload_n 2, 1) := by decide +kernel
theorem dX9_footprint_23 : decode cX9_footprint 23 = .ok (.iload 4, 2) := by decide +kernel
theorem dX9_footprint_25 : decode cX9_footprint 25 = .ok (.invokevirtual 104, 3) := by decide +kernel
theorem dX9_footprint_28 : decode cX9_footprint 28 = .ok (.ifCond .eq 7, 3) := by decide +kernel
theorem dX9_footprint_31 : decode cX9_footprint 31 = .ok (.iconst 1, 1) := by decide +kernel
theorem dX9_footprint_32 : decode cX9_footprint 32 = .ok (.goto 4, 3) := by decide +kernel
theorem dX9_footprint_35 : decode cX9_footprint 35 = .ok (.iconst 0, 1) := by decide +kernel
theorem dX9_footprint_36 : decode cX9_footprint 36 = .ok (.iadd, 1) := by decide +kernel
theorem dX9_footprint_37 : decode cX9_footprint 37 = .ok (.istore_n 3, 1) := by decide +kernel
theorem dX9_footprint_38 : decode cX9_footprint 38 = .ok (.iinc 4 1, 3) := by decide +kernel
theorem dX9_footprint_41 : decode cX9_footprint 41 = .ok (.goto (-36), 3) := by decide +kernel
theorem dX9_footprint_44 : decode cX9_footprint 44 = .ok (.iload_n 3, 1) := by decide +kernel
theorem dX9_footprint_45 : decode cX9_footprint 45 = .ok (.ireturn, 1) := by decide +kernel
set_option maxRecDepth 20000 in
theorem ggX9_footprintSize_X9_checkPhoto : GoodIn wsX9_footprintSize wsX9_checkPhoto := goodIn_r _ [5, 6, 7, 8, 4, 9, 10, 11, 12, 13, 14, 15, 16, 17, 18, 19, 20, 55, 56, 57, 58, 59, 60, 61, 62, 63, 64, 65, 66, 67, 68, 69, 70, 71, 72, 73, 74] (by decide +kernel) (by decide +kernel)
set_option maxRecDepth 20000 in
theorem gX9_footprintSize_X9_checkPhoto : GoodIn wsX9_footprintSize (wsV RX9 86 RX9 yX9_checkPhoto wsX9_checkPhoto) := goodIn_app (goodIn_of _ (by decide +kernel)) ggX9_footprintSize_X9_checkPhoto
set_option maxRecDepth 20000 in
theorem ggX9_footprintSize_X9_footprint : GoodIn wsX9_footprintSize wsX9_footprint := goodIn_r _ [24, 25, 26, 27, 28, 29, 4, 30, 31, 32, 33, 34, 35, 19, 20, 36, 37, 38, 39, 40, 41, 42, 43, 44, 45, 46, 47, 48, 49, 50, 51, 52, 53, 54, 55, 56, 57, 58, 59, 60, 61, 62, 63, 64, 65, 66, 67, 68, 69, 70, 71, 72, 73, 74] (by decide +kernel) (by decide +kernel)
set_option maxRecDepth 20000 in
theorem gX9_footprintSize_X9_footprint : GoodIn wsX9_footprintSize (wsV RX9 107 RX9 yX9_footprint wsX9_footprint) := goodIn_app (goodIn_of _ (by decide +kernel)) ggX9_footprintSize_X9_footprint
theorem dX9_footprintSize_0 : decode cX9_footprintSize 0 = .ok (.aload_n 0, 1) := by decide +kernel
theorem dX9_footprintSize_1 : decode cX9_footprintSize 1 = .ok (.iload_n 1, 1) := by decide +kernel
theorem dX9_footprintSize_2 : decode cX9_footprintSize 2 = .ok (.iload_n 2, 1) := by decide +kernel
theorem dX9_footprintSize_3 : decode cX9_footprintSize 3 = .ok (.invokevirtual 86, 3) := by decide +kernel
theorem dX9_footprintSize_6 : decode cX9_footprintSize 6 = .ok (.istore_n 3, 1) := by decide +kernel
theorem dX9_footprintSize_7 : decode cX9_footprintSize 7 = .ok (.iload_n 3, 1) := by decide +kernel
theorem dX9_footprintSize_8 : decode cX9_footprintSize 8 = .ok (.ifCond .ge 7, 3) := by decide +kernel
theorem dX9_footprintSize_11 : decode cX9_footprintSize 11 = .ok (.iload_n 3, 1) := by decide +kernel
theorem dX9_footprintSize_12 : decode cX9_footprintSize 12 = .ok (.goto 9, 3) := by decide +kernel
theorem dX9_footprintSize_15 : decode cX9_footprintSize 15 = .ok (.aload_n 0, 1) := by decide +kernel
theorem dX9_footprintSize_16 : decode cX9_footprintSize 16 = .ok (.iload_n 1, 1) := by decide +kernel
theorem dX9_footprintSize_17 : decode cX9_footprintSize 17 = .ok (.iload_n 2, 1) := by decide +kernel
theorem dX9_footprintSize_18 : decode cX9_footprintSize 18 = .ok (.invokevirtual 107, 3) := by decide +kernel
theorem dX9_footprintSize_21 : decode cX9_footprintSize 21 = .ok (.ireturn, 1) := by decide +kernel
set_option maxRecDepth 20000 in
theorem ggX9_coverageOf_X9_photosOf : GoodIn wsX9_coverageOf wsX9_photosOf := goodIn_r _ [6, 7, 8, 9, 39, 40, 41, 42, 43, 44, 45, 46, 47, 48, 49, 50, 51, 52, 53, 54, 55, 56, 57, 58] (by decide +kernel) (by decide +kernel)
set_option maxRecDepth 20000 in
theorem gX9_coverageOf_X9_photosOf : GoodIn wsX9_coverageOf (wsV RX9 83 RX9 yX9_photosOf wsX9_photosOf) := goodIn_app (goodIn_of _ (by decide +kernel)) ggX9_coverageOf_X9_photosOf
set_option maxRecDepth 20000 in
theorem ggX9_coverageOf_X9_photoSees : GoodIn wsX9_coverageOf wsX9_photoSees := goodIn_r _ [13, 14, 15, 16, 17, 18, 5, 19, 8, 9, 20, 21, 22, 23, 24, 25, 26, 27, 28, 29, 30, 31, 32, 33, 34, 35, 36, 37, 38, 39, 40, 41, 42, 43, 44, 45, 46, 47, 48, 49, 50, 51, 52, 53, 54, 55, 56, 57, 58] (by decide +kernel) (by decide +kernel)
set_option maxRecDepth 20000 in
theorem gX9_coverageOf_X9_photoSees : GoodIn wsX9_coverageOf (wsV RX9 104 RX9 yX9_photoSees wsX9_photoSees) := goodIn_app (goodIn_of _ (by decide +kernel)) ggX9_coverageOf_X9_photoSees
theorem dX9_coverageOf_0 : decode cX9_coverageOf 0 = .ok (.iconst 0, 1) := by decide +kernel
theorem dX9_coverageOf_1 : decode cX9_coverageOf 1 = .ok (.istore_n 2, 1) := by decide +kernel
theorem dX9_coverageOf_2 : decode cX9_coverageOf 2 = .ok (.iconst 0, 1) := by decide +kernel
theorem dX9_coverageOf_3 : decode cX9_coverageOf 3 = .ok (.istore_n 3, 1) := by decide +kernel
theorem dX9_coverageOf_4 : decode cX9_coverageOf 4 = .ok (.iload_n 3, 1) := by decide +kernel
theorem dX9_coverageOf_5 : decode cX9_coverageOf 5 = .ok (.aload_n 0, 1) := by decide +kernel
theorem dX9_coverageOf_6 : decode cX9_coverageOf 6 = .ok (.getfield 58, 3) := by decide +kernel
theorem dX9_coverageOf_9 : decode cX9_coverageOf 9 = .ok (.if_icmp .ge 47, 3) := by decide +kernel
theorem dX9_coverageOf_12 : decode cX9_coverageOf 12 = .ok (.iconst 0, 1) := by decide +kernel
theorem dX9_coverageOf_13 : decode cX9_coverageOf 13 = .ok (.istore 4, 2) := by decide +kernel
theorem dX9_coverageOf_15 : decode cX9_coverageOf 15 = .ok (.iload 4, 2) := by decide +kernel
theorem dX9_coverageOf_17 : decode cX9_coverageOf 17 = .ok (.aload_n 0, 1) := by decide +kernel
theorem dX9_coverageOf_18 : decode cX9_coverageOf 18 = .ok (.iload_n 3, 1) := by decide +kernel
theorem dX9_coverageOf_19 : decode cX9_coverageOf 19 = .ok (.invokevirtual 83, 3) := by decide +kernel
theorem dX9_coverageOf_22 : decode cX9_coverageOf 22 = .ok (.if_icmp .ge 28, 3) := by decide +kernel
theorem dX9_coverageOf_25 : decode cX9_coverageOf 25 = .ok (.iload_n 2, 1) := by decide +kernel
theorem dX9_coverageOf_26 : decode cX9_coverageOf 26 = .ok (.aload_n 0, 1) := by decide +kernel
theorem dX9_coverageOf_27 : decode cX9_coverageOf 27 = .ok (.iload_n 3, 1) := by decide +kernel
theorem dX9_coverageOf_28 : decode cX9_coverageOf 28 = .ok (.iload 4, 2) := by decide +kernel
theorem dX9_coverageOf_30 : decode cX9_coverageOf 30 = .ok (.iload_n 1, 1) := by decide +kernel
theorem dX9_coverageOf_31 : decode cX9_coverageOf 31 = .ok (.invokevirtual 104, 3) := by decide +kernel
theorem dX9_coverageOf_34 : decode cX9_coverageOf 34 = .ok (.ifCond .eq 7, 3) := by decide +kernel
theorem dX9_coverageOf_37 : decode cX9_coverageOf 37 = .ok (.iconst 1, 1) := by decide +kernel
theorem dX9_coverageOf_38 : decode cX9_coverageOf 38 = .ok (.goto 4, 3) := by decide +kernel
theorem dX9_coverageOf_41 : decode cX9_coverageOf 41 = .ok (.iconst 0, 1) := by decide +kernel
theorem dX9_coverageOf_42 : decode cX9_coverageOf 42 = .ok (.iadd, 1) := by decide +kernel
theorem dX9_coverageOf_43 : decode cX9_coverageOf 43 = .ok (.istore_n 2, 1) := by decide +kernel
theorem dX9_coverageOf_44 : decode cX9_coverageOf 44 = .ok (.iinc 4 1, 3) := by decide +kernel
theorem dX9_coverageOf_47 : decode cX9_coverageOf 47 = .ok (.goto (-32), 3) := by decide +kernel
theorem dX9_coverageOf_50 : decode cX9_coverageOf 50 = .ok (.iinc 3 1, 3) := by decide +kernel
theorem dX9_coverageOf_53 : decode cX9_coverageOf 53 = .ok (.goto (-49), 3) := by decide +kernel
theorem dX9_coverageOf_56 : decode cX9_coverageOf 56 = .ok (.iload_n 2, 1) := by decide +kernel
theorem dX9_coverageOf_57 : decode cX9_coverageOf 57 = .ok (.ireturn, 1) := by decide +kernel
set_option maxRecDepth 20000 in
theorem ggX9_coverage_X9_isCell : GoodIn wsX9_coverage wsX9_isCell := goodIn_r _ [6, 7, 1, 8, 9, 5, 10, 51, 52, 53, 54, 55, 56, 57, 58, 59, 60, 61, 62, 63, 64, 65, 66, 67, 68, 69, 70] (by decide +kernel) (by decide +kernel)
set_option maxRecDepth 20000 in
theorem gX9_coverage_X9_isCell : GoodIn wsX9_coverage (wsV RX9 61 RX9 yX9_isCell wsX9_isCell) := goodIn_app (goodIn_of _ (by decide +kernel)) ggX9_coverage_X9_isCell
set_option maxRecDepth 20000 in
theorem ggX9_coverage_X9_coverageOf : GoodIn wsX9_coverage wsX9_coverageOf := goodIn_r _ [14, 15, 16, 17, 18, 5, 19, 20, 21, 22, 23, 24, 25, 26, 27, 1, 28, 29, 30, 31, 32, 33, 34, 35, 36, 37, 38, 39, 40, 41, 42, 43, 44, 45, 46, 47, 48, 49, 50, 51, 52, 53, 54, 55, 56, 57, 58, 59, 60, 61, 62, 63, 64, 65, 66, 67, 68, 69, 70] (by decide +kernel) (by decide +kernel)
set_option maxRecDepth 20000 in
theorem gX9_coverage_X9_coverageOf : GoodIn wsX9_coverage (wsV RX9 110 RX9 yX9_coverageOf wsX9_coverageOf) := goodIn_app (goodIn_of _ (by decide +kernel)) ggX9_coverage_X9_coverageOf
theorem dX9_coverage_0 : decode cX9_coverage 0 = .ok (.aload_n 0, 1) := by decide +kernel
theorem dX9_coverage_1 : decode cX9_coverage 1 = .ok (.iload_n 1, 1) := by decide +kernel
theorem dX9_coverage_2 : decode cX9_coverage 2 = .ok (.iload_n 2, 1) := by decide +kernel
theorem dX9_coverage_3 : decode cX9_coverage 3 = .ok (.invokevirtual 61, 3) := by decide +kernel
theorem dX9_coverage_6 : decode cX9_coverage 6 = .ok (.ifCond .eq 18, 3) := by decide +kernel
theorem dX9_coverage_9 : decode cX9_coverage 9 = .ok (.aload_n 0, 1) := by decide +kernel
theorem dX9_coverage_10 : decode cX9_coverage 10 = .ok (.aload_n 0, 1) := by decide +kernel
theorem dX9_coverage_11 : decode cX9_coverage 11 = .ok (.getfield 51, 3) := by decide +kernel
theorem dX9_coverage_14 : decode cX9_coverage 14 = .ok (.iload_n 1, 1) := by decide +kernel
theorem dX9_coverage_15 : decode cX9_coverage 15 = .ok (.imul, 1) := by decide +kernel
theorem dX9_coverage_16 : decode cX9_coverage 16 = .ok (.iload_n 2, 1) := by decide +kernel
theorem dX9_coverage_17 : decode cX9_coverage 17 = .ok (.iadd, 1) := by decide +kernel
theorem dX9_coverage_18 : decode cX9_coverage 18 = .ok (.invokevirtual 110, 3) := by decide +kernel
theorem dX9_coverage_21 : decode cX9_coverage 21 = .ok (.goto 4, 3) := by decide +kernel
theorem dX9_coverage_24 : decode cX9_coverage 24 = .ok (.iconst (-1), 1) := by decide +kernel
theorem dX9_coverage_25 : decode cX9_coverage 25 = .ok (.ireturn, 1) := by decide +kernel
set_option maxRecDepth 20000 in
theorem ggX9_isRequired_X9_isBetween : GoodIn wsX9_isRequired wsX9_isBetween := goodIn_r _ [4] (by decide +kernel) (by decide +kernel)
set_option maxRecDepth 20000 in
theorem gX9_isRequired_X9_isBetween : GoodIn wsX9_isRequired (va_wsS RX9 54 yX9_isBetween wsX9_isBetween) := goodIn_app (goodIn_of _ (by decide +kernel)) ggX9_isRequired_X9_isBetween
theorem dX9_isRequired_0 : decode cX9_isRequired 0 = .ok (.iload_n 0, 1) := by decide +kernel
theorem dX9_isRequired_1 : decode cX9_isRequired 1 = .ok (.iconst 1, 1) := by decide +kernel
theorem dX9_isRequired_2 : decode cX9_isRequired 2 = .ok (.bipush 9, 2) := by decide +kernel
theorem dX9_isRequired_4 : decode cX9_isRequired 4 = .ok (.invokestatic 54, 3) := by decide +kernel
theorem dX9_isRequired_7 : decode cX9_isRequired 7 = .ok (.ireturn, 1) := by decide +kernel
set_option maxRecDepth 20000 in
theorem ggX9_gapCount_X9_isRequired : GoodIn wsX9_gapCount wsX9_isRequired := goodIn_r _ [6, 7, 8, 5, 9] (by decide +kernel) (by decide +kernel)
set_option maxRecDepth 20000 in
theorem gX9_gapCount_X9_isRequired : GoodIn wsX9_gapCount (va_wsS RX9 113 yX9_isRequired wsX9_isRequired) := goodIn_app (goodIn_of _ (by decide +kernel)) ggX9_gapCount_X9_isRequired
set_option maxRecDepth 20000 in
theorem ggX9_gapCount_X9_coverageOf : GoodIn wsX9_gapCount wsX9_coverageOf := goodIn_r _ [13, 14, 15, 16, 17, 5, 18, 19, 20, 21, 22, 23, 24, 25, 26, 2, 27, 28, 29, 30, 31, 32, 33, 34, 35, 36, 37, 38, 39, 40, 41, 42, 43, 44, 45, 46, 47, 48, 49, 50, 51, 52, 53, 54, 55, 56, 57, 58, 59, 60, 61, 62, 63, 64, 65, 66, 67, 68, 69] (by decide +kernel) (by decide +kernel)
set_option maxRecDepth 20000 in
theorem gX9_gapCount_X9_coverageOf : GoodIn wsX9_gapCount (wsV RX9 110 RX9 yX9_coverageOf wsX9_coverageOf) := goodIn_app (goodIn_of _ (by decide +kernel)) ggX9_gapCount_X9_coverageOf
theorem dX9_gapCount_0 : decode cX9_gapCount 0 = .ok (.iload_n 1, 1) := by decide +kernel
theorem dX9_gapCount_1 : decode cX9_gapCount 1 = .ok (.invokestatic 113, 3) := by decide +kernel
theorem dX9_gapCount_4 : decode cX9_gapCount 4 = .ok (.ifCond .ne 6, 3) := by decide +kernel
theorem dX9_gapCount_7 : decode cX9_gapCount 7 = .ok (.bipush (-4), 2) := by decide +kernel
theorem dX9_gapCount_9 : decode cX9_gapCount 9 = .ok (.ireturn, 1) := by decide +kernel
theorem dX9_gapCount_10 : decode cX9_gapCount 10 = .ok (.iconst 0, 1) := by decide +kernel
theorem dX9_gapCount_11 : decode cX9_gapCount 11 = .ok (.istore_n 2, 1) := by decide +kernel
theorem dX9_gapCount_12 : decode cX9_gapCount 12 = .ok (.iconst 0, 1) := by decide +kernel
theorem dX9_gapCount_13 : decode cX9_gapCount 13 = .ok (.istore_n 3, 1) := by decide +kernel
theorem dX9_gapCount_14 : decode cX9_gapCount 14 = .ok (.iload_n 3, 1) := by decide +kernel
theorem dX9_gapCount_15 : decode cX9_gapCount 15 = .ok (.aload_n 0, 1) := by decide +kernel
theorem dX9_gapCount_16 : decode cX9_gapCount 16 = .ok (.getfield 48, 3) := by decide +kernel
theorem dX9_gapCount_19 : decode cX9_gapCount 19 = .ok (.aload_n 0, 1) := by decide +kernel
theorem dX9_gapCount_20 : decode cX9_gapCount 20 = .ok (.getfield 51, 3) := by decide +kernel
theorem dX9_gapCount_23 : decode cX9_gapCount 23 = .ok (.imul, 1) := by decide +kernel
theorem dX9_gapCount_24 : decode cX9_gapCount 24 = .ok (.if_icmp .ge 26, 3) := by decide +kernel
theorem dX9_gapCount_27 : decode cX9_gapCount 27 = .ok (.iload_n 2, 1) := by decide +kernel
theorem dX9_gapCount_28 : decode cX9_gapCount 28 = .ok (.aload_n 0, 1) := by decide +kernel
theorem dX9_gapCount_29 : decode cX9_gapCount 29 = .ok (.iload_n 3, 1) := by decide +kernel
theorem dX9_gapCount_30 : decode cX9_gapCount 30 = .ok (.invokevirtual 110, 3) := by decide +kernel
theorem dX9_gapCount_33 : decode cX9_gapCount 33 = .ok (.iload_n 1, 1) := by decide +kernel
theorem dX9_gapCount_34 : decode cX9_gapCount 34 = .ok (.if_icmp .ge 7, 3) := by decide +kernel
theorem dX9_gapCount_37 : decode cX9_gapCount 37 = .ok (.iconst 1, 1) := by decide +kernel
theorem dX9_gapCount_38 : decode cX9_gapCount 38 = .ok (.goto 4, 3) := by decide +kernel
theorem dX9_gapCount_41 : decode cX9_gapCount 41 = .ok (.iconst 0, 1) := by decide +kernel
theorem dX9_gapCount_42 : decode cX9_gapCount 42 = .ok (.iadd, 1) := by decide +kernel
theorem dX9_gapCount_43 : decode cX9_gapCount 43 = .ok (.istore_n 2, 1) := by decide +kernel
theorem dX9_gapCount_44 : decode cX9_gapCount 44 = .ok (.iinc 3 1, 3) := by decide +kernel
theorem dX9_gapCount_47 : decode cX9_gapCount 47 = .ok (.goto (-33), 3) := by decide +kernel
theorem dX9_gapCount_50 : decode cX9_gapCount 50 = .ok (.iload_n 2, 1) := by decide +kernel
theorem dX9_gapCount_51 : decode cX9_gapCount 51 = .ok (.ireturn, 1) := by decide +kernel
set_option maxRecDepth 20000 in
theorem ggX9_gapAt_X9_isRequired : GoodIn wsX9_gapAt wsX9_isRequired := goodIn_r _ [6, 7, 8, 5, 9] (by decide +kernel) (by decide +kernel)
set_option maxRecDepth 20000 in
theorem gX9_gapAt_X9_isRequired : GoodIn wsX9_gapAt (va_wsS RX9 113 yX9_isRequired wsX9_isRequired) := goodIn_app (goodIn_of _ (by decide +kernel)) ggX9_gapAt_X9_isRequired
set_option maxRecDepth 20000 in
theorem ggX9_gapAt_X9_coverageOf : GoodIn wsX9_gapAt wsX9_coverageOf := goodIn_r _ [13, 14, 15, 16, 17, 5, 18, 19, 20, 21, 22, 23, 24, 25, 26, 2, 27, 28, 29, 30, 31, 32, 33, 34, 35, 36, 37, 38, 39, 40, 41, 42, 43, 44, 45, 46, 47, 48, 49, 50, 51, 52, 53, 54, 55, 56, 57, 58, 59, 60, 61, 62, 63, 64, 65, 66, 67, 68, 69] (by decide +kernel) (by decide +kernel)
set_option maxRecDepth 20000 in
theorem gX9_gapAt_X9_coverageOf : GoodIn wsX9_gapAt (wsV RX9 110 RX9 yX9_coverageOf wsX9_coverageOf) := goodIn_app (goodIn_of _ (by decide +kernel)) ggX9_gapAt_X9_coverageOf
theorem dX9_gapAt_0 : decode cX9_gapAt 0 = .ok (.iload_n 1, 1) := by decide +kernel
theorem dX9_gapAt_1 : decode cX9_gapAt 1 = .ok (.invokestatic 113, 3) := by decide +kernel
theorem dX9_gapAt_4 : decode cX9_gapAt 4 = .ok (.ifCond .eq 7, 3) := by decide +kernel
theorem dX9_gapAt_7 : decode cX9_gapAt 7 = .ok (.iload_n 2, 1) := by decide +kernel
theorem dX9_gapAt_8 : decode cX9_gapAt 8 = .ok (.ifCond .ge 6, 3) := by decide +kernel
theorem dX9_gapAt_11 : decode cX9_gapAt 11 = .ok (.bipush (-4), 2) := by decide +kernel
theorem dX9_gapAt_13 : decode cX9_gapAt 13 = .ok (.ireturn, 1) := by decide +kernel
theorem dX9_gapAt_14 : decode cX9_gapAt 14 = .ok (.iload_n 2, 1) := by decide +kernel
theorem dX9_gapAt_15 : decode cX9_gapAt 15 = .ok (.istore_n 3, 1) := by decide +kernel
theorem dX9_gapAt_16 : decode cX9_gapAt 16 = .ok (.iconst 0, 1) := by decide +kernel
theorem dX9_gapAt_17 : decode cX9_gapAt 17 = .ok (.istore 4, 2) := by decide +kernel
theorem dX9_gapAt_19 : decode cX9_gapAt 19 = .ok (.iload 4, 2) := by decide +kernel
theorem dX9_gapAt_21 : decode cX9_gapAt 21 = .ok (.aload_n 0, 1) := by decide +kernel
theorem dX9_gapAt_22 : decode cX9_gapAt 22 = .ok (.getfield 48, 3) := by decide +kernel
theorem dX9_gapAt_25 : decode cX9_gapAt 25 = .ok (.aload_n 0, 1) := by decide +kernel
theorem dX9_gapAt_26 : decode cX9_gapAt 26 = .ok (.getfield 51, 3) := by decide +kernel
theorem dX9_gapAt_29 : decode cX9_gapAt 29 = .ok (.imul, 1) := by decide +kernel
theorem dX9_gapAt_30 : decode cX9_gapAt 30 = .ok (.if_icmp .ge 45, 3) := by decide +kernel
theorem dX9_gapAt_33 : decode cX9_gapAt 33 = .ok (.aload_n 0, 1) := by decide +kernel
theorem dX9_gapAt_34 : decode cX9_gapAt 34 = .ok (.iload 4, 2) := by decide +kernel
theorem dX9_gapAt_36 : decode cX9_gapAt 36 = .ok (.invokevirtual 110, 3) := by decide +kernel
theorem dX9_gapAt_39 : decode cX9_gapAt 39 = .ok (.iload_n 1, 1) := by decide +kernel
theorem dX9_gapAt_40 : decode cX9_gapAt 40 = .ok (.if_icmp .ge 29, 3) := by decide +kernel
theorem dX9_gapAt_43 : decode cX9_gapAt 43 = .ok (.iload_n 3, 1) := by decide +kernel
theorem dX9_gapAt_44 : decode cX9_gapAt 44 = .ok (.ifCond .ne 22, 3) := by decide +kernel
theorem dX9_gapAt_47 : decode cX9_gapAt 47 = .ok (.bipush 100, 2) := by decide +kernel
theorem dX9_gapAt_49 : decode cX9_gapAt 49 = .ok (.iload 4, 2) := by decide +kernel
theorem dX9_gapAt_51 : decode cX9_gapAt 51 = .ok (.aload_n 0, 1) := by decide +kernel
theorem dX9_gapAt_52 : decode cX9_gapAt 52 = .ok (.getfield 51, 3) := by decide +kernel
theorem dX9_gapAt_55 : decode cX9_gapAt 55 = .ok (.idiv, 1) := by decide +kernel
theorem dX9_gapAt_56 : decode cX9_gapAt 56 = .ok (.imul, 1) := by decide +kernel
theorem dX9_gapAt_57 : decode cX9_gapAt 57 = .ok (.iload 4, 2) := by decide +kernel
theorem dX9_gapAt_59 : decode cX9_gapAt 59 = .ok (.aload_n 0, 1) := by decide +kernel
theorem dX9_gapAt_60 : decode cX9_gapAt 60 = .ok (.getfield 51, 3) := by decide +kernel
theorem dX9_gapAt_63 : decode cX9_gapAt 63 = .ok (.irem, 1) := by decide +kernel
theorem dX9_gapAt_64 : decode cX9_gapAt 64 = .ok (.iadd, 1) := by decide +kernel
theorem dX9_gapAt_65 : decode cX9_gapAt 65 = .ok (.ireturn, 1) := by decide +kernel
theorem dX9_gapAt_66 : decode cX9_gapAt 66 = .ok (.iinc 3 (-1), 3) := by decide +kernel
theorem dX9_gapAt_69 : decode cX9_gapAt 69 = .ok (.iinc 4 1, 3) := by decide +kernel
theorem dX9_gapAt_72 : decode cX9_gapAt 72 = .ok (.goto (-53), 3) := by decide +kernel
theorem dX9_gapAt_75 : decode cX9_gapAt 75 = .ok (.bipush (-6), 2) := by decide +kernel
theorem dX9_gapAt_77 : decode cX9_gapAt 77 = .ok (.ireturn, 1) := by decide +kernel
theorem dX9_percent_0 : decode cX9_percent 0 = .ok (.iload_n 1, 1) := by decide +kernel
theorem dX9_percent_1 : decode cX9_percent 1 = .ok (.iload_n 2, 1) := by decide +kernel
theorem dX9_percent_2 : decode cX9_percent 2 = .ok (.if_icmp .ge 7, 3) := by decide +kernel
theorem dX9_percent_5 : decode cX9_percent 5 = .ok (.iload_n 1, 1) := by decide +kernel
theorem dX9_percent_6 : decode cX9_percent 6 = .ok (.goto 4, 3) := by decide +kernel
theorem dX9_percent_9 : decode cX9_percent 9 = .ok (.iload_n 2, 1) := by decide +kernel
theorem dX9_percent_10 : decode cX9_percent 10 = .ok (.istore_n 3, 1) := by decide +kernel
theorem dX9_percent_11 : decode cX9_percent 11 = .ok (.iload_n 3, 1) := by decide +kernel
theorem dX9_percent_12 : decode cX9_percent 12 = .ok (.ifCond .ne 7, 3) := by decide +kernel
theorem dX9_percent_15 : decode cX9_percent 15 = .ok (.iconst 0, 1) := by decide +kernel
theorem dX9_percent_16 : decode cX9_percent 16 = .ok (.goto 9, 3) := by decide +kernel
theorem dX9_percent_19 : decode cX9_percent 19 = .ok (.iload_n 0, 1) := by decide +kernel
theorem dX9_percent_20 : decode cX9_percent 20 = .ok (.bipush 100, 2) := by decide +kernel
theorem dX9_percent_22 : decode cX9_percent 22 = .ok (.imul, 1) := by decide +kernel
theorem dX9_percent_23 : decode cX9_percent 23 = .ok (.iload_n 3, 1) := by decide +kernel
theorem dX9_percent_24 : decode cX9_percent 24 = .ok (.idiv, 1) := by decide +kernel
theorem dX9_percent_25 : decode cX9_percent 25 = .ok (.ireturn, 1) := by decide +kernel
set_option maxRecDepth 20000 in
theorem ggX9_forwardOverlap_X9_checkPhoto : GoodIn wsX9_forwardOverlap wsX9_checkPhoto := goodIn_r _ [7, 8, 9, 10, 6, 11, 12, 13, 14, 15, 16, 17, 18, 19, 20, 21, 22, 58, 59, 60, 61, 62, 63, 64, 65, 66, 67, 68, 69, 70, 71, 72, 73, 74, 75, 76, 77] (by decide +kernel) (by decide +kernel)
set_option maxRecDepth 20000 in
theorem gX9_forwardOverlap_X9_checkPhoto : GoodIn wsX9_forwardOverlap (wsV RX9 86 RX9 yX9_checkPhoto wsX9_checkPhoto) := goodIn_app (goodIn_of _ (by decide +kernel)) ggX9_forwardOverlap_X9_checkPhoto
set_option maxRecDepth 20000 in
theorem ggX9_forwardOverlap_X9_photosOf : GoodIn wsX9_forwardOverlap wsX9_photosOf := goodIn_r _ [19, 20, 21, 22, 58, 59, 60, 61, 62, 63, 64, 65, 66, 67, 68, 69, 70, 71, 72, 73, 74, 75, 76, 77] (by decide +kernel) (by decide +kernel)
set_option maxRecDepth 20000 in
theorem gX9_forwardOverlap_X9_photosOf : GoodIn wsX9_forwardOverlap (wsV RX9 83 RX9 yX9_photosOf wsX9_photosOf) := goodIn_app (goodIn_of _ (by decide +kernel)) ggX9_forwardOverlap_X9_photosOf
set_option maxRecDepth 20000 in
theorem ggX9_forwardOverlap_X9_photoSees : GoodIn wsX9_forwardOverlap wsX9_photoSees := goodIn_r _ [26, 27, 2, 28, 29, 30, 6, 31, 21, 22, 32, 33, 34, 35, 36, 37, 38, 39, 40, 41, 42, 43, 44, 45, 46, 47, 48, 49, 50, 58, 59, 60, 61, 62, 63, 64, 65, 66, 67, 68, 69, 70, 71, 72, 73, 74, 75, 76, 77] (by decide +kernel) (by decide +kernel)
set_option maxRecDepth 20000 in
theorem gX9_forwardOverlap_X9_photoSees : GoodIn wsX9_forwardOverlap (wsV RX9 104 RX9 yX9_photoSees wsX9_photoSees) := goodIn_app (goodIn_of _ (by decide +kernel)) ggX9_forwardOverlap_X9_photoSees
set_option maxRecDepth 20000 in
theorem ggX9_forwardOverlap_X9_footprint : GoodIn wsX9_forwardOverlap wsX9_footprint := goodIn_r _ [54, 1, 2, 23, 24, 25, 6, 26, 27, 28, 29, 30, 31, 21, 22, 32, 33, 34, 35, 36, 37, 38, 39, 40, 41, 42, 43, 44, 45, 46, 47, 48, 49, 50, 58, 59, 60, 61, 62, 63, 64, 65, 66, 67, 68, 69, 70, 71, 72, 73, 74, 75, 76, 77] (by decide +kernel) (by decide +kernel)
set_option maxRecDepth 20000 in
theorem gX9_forwardOverlap_X9_footprint : GoodIn wsX9_forwardOverlap (wsV RX9 107 RX9 yX9_footprint wsX9_footprint) := goodIn_app (goodIn_of _ (by decide +kernel)) ggX9_forwardOverlap_X9_footprint
set_option maxRecDepth 20000 in
theorem ggX9_forwardOverlap_X9_percent : GoodIn wsX9_forwardOverlap wsX9_percent := goodIn_r _ [57] (by decide +kernel) (by decide +kernel)
set_option maxRecDepth 20000 in
theorem gX9_forwardOverlap_X9_percent : GoodIn wsX9_forwardOverlap (va_wsS RX9 116 yX9_percent wsX9_percent) := goodIn_app (goodIn_of _ (by decide +kernel)) ggX9_forwardOverlap_X9_percent
theorem dX9_forwardOverlap_0 : decode cX9_forwardOverlap 0 = .ok (.aload_n 0, 1) := by decide +kernel
theorem dX9_forwardOverlap_1 : decode cX9_forwardOverlap 1 = .ok (.iload_n 1, 1) := by decide +kernel
theorem dX9_forwardOverlap_2 : decode cX9_forwardOverlap 2 = .ok (.iload_n 2, 1) := by decide +kernel
theorem dX9_forwardOverlap_3 : decode cX9_forwardOverlap 3 = .ok (.invokevirtual 86, 3) := by decide +kernel
theorem dX9_forwardOverlap_6 : decode cX9_forwardOverlap 6 = .ok (.istore_n 3, 1) := by decide +kernel
theorem dX9_forwardOverlap_7 : decode cX9_forwardOverlap 7 = .ok (.iload_n 3, 1) := by decide +kernel
theorem dX9_forwardOverlap_8 : decode cX9_forwardOverlap 8 = .ok (.ifCond .ne 17, 3) := by decide +kernel
theorem dX9_forwardOverlap_11 : decode cX9_forwardOverlap 11 = .ok (.iload_n 2, 1) := by decide +kernel
theorem dX9_forwardOverlap_12 : decode cX9_forwardOverlap 12 = .ok (.iconst 1, 1) := by decide +kernel
theorem dX9_forwardOverlap_13 : decode cX9_forwardOverlap 13 = .ok (.iadd, 1) := by decide +kernel
theorem dX9_forwardOverlap_14 : decode cX9_forwardOverlap 14 = .ok (.aload_n 0, 1) := by decide +kernel
end
section
theorem dX9_forwardOverlap_15 : decode cX9_forwardOverlap 15 = .ok (.iload_n 1, 1) := by decide +kernel
theorem dX9_forwardOverlap_16 : decode cX9_forwardOverlap 16 = .ok (.invokevirtual 83, 3) := by decide +kernel
theorem dX9_forwardOverlap_19 : decode cX9_forwardOverlap 19 = .ok (.if_icmp .ne 6, 3) := by decide +kernel
theorem dX9_forwardOverlap_22 : decode cX9_forwardOverlap 22 = .ok (.bipush (-3), 2) := by decide +kernel
theorem dX9_forwardOverlap_24 : decode cX9_forwardOverlap 24 = .ok (.istore_n 3, 1) := by decide +kernel
theorem dX9_forwardOverlap_25 : decode cX9_forwardOverlap 25 = .ok (.iload_n 3, 1) := by decide +kernel
theorem dX9_forwardOverlap_26 : decode cX9_forwardOverlap 26 = .ok (.ifCond .ge 5, 3) := by decide +kernel
theorem dX9_forwardOverlap_29 : decode cX9_forwardOverlap 29 = .ok (.iload_n 3, 1) := by decide +kernel
theorem dX9_forwardOverlap_30 : decode cX9_forwardOverlap 30 = .ok (.ireturn, 1) := by decide +kernel
theorem dX9_forwardOverlap_31 : decode cX9_forwardOverlap 31 = .ok (.iconst 0, 1) := by decide +kernel
theorem dX9_forwardOverlap_32 : decode cX9_forwardOverlap 32 = .ok (.istore 4, 2) := by decide +kernel
theorem dX9_forwardOverlap_34 : decode cX9_forwardOverlap 34 = .ok (.iconst 0, 1) := by decide +kernel
theorem dX9_forwardOverlap_35 : decode cX9_forwardOverlap 35 = .ok (.istore 5, 2) := by decide +kernel
theorem dX9_forwardOverlap_37 : decode cX9_forwardOverlap 37 = .ok (.iload 5, 2) := by decide +kernel
theorem dX9_forwardOverlap_39 : decode cX9_forwardOverlap 39 = .ok (.aload_n 0, 1) := by decide +kernel
theorem dX9_forwardOverlap_40 : decode cX9_forwardOverlap 40 = .ok (.getfield 48, 3) := by decide +kernel
theorem dX9_forwardOverlap_43 : decode cX9_forwardOverlap 43 = .ok (.aload_n 0, 1) := by decide +kernel
theorem dX9_forwardOverlap_44 : decode cX9_forwardOverlap 44 = .ok (.getfield 51, 3) := by decide +kernel
theorem dX9_forwardOverlap_47 : decode cX9_forwardOverlap 47 = .ok (.imul, 1) := by decide +kernel
theorem dX9_forwardOverlap_48 : decode cX9_forwardOverlap 48 = .ok (.if_icmp .ge 43, 3) := by decide +kernel
theorem dX9_forwardOverlap_51 : decode cX9_forwardOverlap 51 = .ok (.iload 4, 2) := by decide +kernel
theorem dX9_forwardOverlap_53 : decode cX9_forwardOverlap 53 = .ok (.aload_n 0, 1) := by decide +kernel
theorem dX9_forwardOverlap_54 : decode cX9_forwardOverlap 54 = .ok (.iload_n 1, 1) := by decide +kernel
theorem dX9_forwardOverlap_55 : decode cX9_forwardOverlap 55 = .ok (.iload_n 2, 1) := by decide +kernel
theorem dX9_forwardOverlap_56 : decode cX9_forwardOverlap 56 = .ok (.iload 5, 2) := by decide +kernel
theorem dX9_forwardOverlap_58 : decode cX9_forwardOverlap 58 = .ok (.invokevirtual 104, 3) := by decide +kernel
theorem dX9_forwardOverlap_61 : decode cX9_forwardOverlap 61 = .ok (.ifCond .eq 20, 3) := by decide +kernel
theorem dX9_forwardOverlap_64 : decode cX9_forwardOverlap 64 = .ok (.aload_n 0, 1) := by decide +kernel
theorem dX9_forwardOverlap_65 : decode cX9_forwardOverlap 65 = .ok (.iload_n 1, 1) := by decide +kernel
theorem dX9_forwardOverlap_66 : decode cX9_forwardOverlap 66 = .ok (.iload_n 2, 1) := by decide +kernel
theorem dX9_forwardOverlap_67 : decode cX9_forwardOverlap 67 = .ok (.iconst 1, 1) := by decide +kernel
theorem dX9_forwardOverlap_68 : decode cX9_forwardOverlap 68 = .ok (.iadd, 1) := by decide +kernel
theorem dX9_forwardOverlap_69 : decode cX9_forwardOverlap 69 = .ok (.iload 5, 2) := by decide +kernel
theorem dX9_forwardOverlap_71 : decode cX9_forwardOverlap 71 = .ok (.invokevirtual 104, 3) := by decide +kernel
theorem dX9_forwardOverlap_74 : decode cX9_forwardOverlap 74 = .ok (.ifCond .eq 7, 3) := by decide +kernel
theorem dX9_forwardOverlap_77 : decode cX9_forwardOverlap 77 = .ok (.iconst 1, 1) := by decide +kernel
theorem dX9_forwardOverlap_78 : decode cX9_forwardOverlap 78 = .ok (.goto 4, 3) := by decide +kernel
theorem dX9_forwardOverlap_81 : decode cX9_forwardOverlap 81 = .ok (.iconst 0, 1) := by decide +kernel
theorem dX9_forwardOverlap_82 : decode cX9_forwardOverlap 82 = .ok (.iadd, 1) := by decide +kernel
theorem dX9_forwardOverlap_83 : decode cX9_forwardOverlap 83 = .ok (.istore 4, 2) := by decide +kernel
theorem dX9_forwardOverlap_85 : decode cX9_forwardOverlap 85 = .ok (.iinc 5 1, 3) := by decide +kernel
theorem dX9_forwardOverlap_88 : decode cX9_forwardOverlap 88 = .ok (.goto (-51), 3) := by decide +kernel
theorem dX9_forwardOverlap_91 : decode cX9_forwardOverlap 91 = .ok (.iload 4, 2) := by decide +kernel
theorem dX9_forwardOverlap_93 : decode cX9_forwardOverlap 93 = .ok (.aload_n 0, 1) := by decide +kernel
theorem dX9_forwardOverlap_94 : decode cX9_forwardOverlap 94 = .ok (.iload_n 1, 1) := by decide +kernel
theorem dX9_forwardOverlap_95 : decode cX9_forwardOverlap 95 = .ok (.iload_n 2, 1) := by decide +kernel
theorem dX9_forwardOverlap_96 : decode cX9_forwardOverlap 96 = .ok (.invokevirtual 107, 3) := by decide +kernel
theorem dX9_forwardOverlap_99 : decode cX9_forwardOverlap 99 = .ok (.aload_n 0, 1) := by decide +kernel
theorem dX9_forwardOverlap_100 : decode cX9_forwardOverlap 100 = .ok (.iload_n 1, 1) := by decide +kernel
theorem dX9_forwardOverlap_101 : decode cX9_forwardOverlap 101 = .ok (.iload_n 2, 1) := by decide +kernel
theorem dX9_forwardOverlap_102 : decode cX9_forwardOverlap 102 = .ok (.iconst 1, 1) := by decide +kernel
theorem dX9_forwardOverlap_103 : decode cX9_forwardOverlap 103 = .ok (.iadd, 1) := by decide +kernel
theorem dX9_forwardOverlap_104 : decode cX9_forwardOverlap 104 = .ok (.invokevirtual 107, 3) := by decide +kernel
theorem dX9_forwardOverlap_107 : decode cX9_forwardOverlap 107 = .ok (.invokestatic 116, 3) := by decide +kernel
theorem dX9_forwardOverlap_110 : decode cX9_forwardOverlap 110 = .ok (.ireturn, 1) := by decide +kernel
set_option maxRecDepth 20000 in
theorem ggX9_stripSees_X9_photosOf : GoodIn wsX9_stripSees wsX9_photosOf := goodIn_r _ [5, 6, 7, 8, 38, 39, 40, 41, 42, 43, 44, 45, 46, 47, 48, 49, 50, 51, 52, 53, 54, 55, 56, 57] (by decide +kernel) (by decide +kernel)
set_option maxRecDepth 20000 in
theorem gX9_stripSees_X9_photosOf : GoodIn wsX9_stripSees (wsV RX9 83 RX9 yX9_photosOf wsX9_photosOf) := goodIn_app (goodIn_of _ (by decide +kernel)) ggX9_stripSees_X9_photosOf
set_option maxRecDepth 20000 in
theorem ggX9_stripSees_X9_photoSees : GoodIn wsX9_stripSees wsX9_photoSees := goodIn_r _ [12, 13, 14, 15, 16, 17, 4, 18, 7, 8, 19, 20, 21, 22, 23, 24, 25, 26, 27, 28, 29, 30, 31, 32, 33, 34, 35, 36, 37, 38, 39, 40, 41, 42, 43, 44, 45, 46, 47, 48, 49, 50, 51, 52, 53, 54, 55, 56, 57] (by decide +kernel) (by decide +kernel)
set_option maxRecDepth 20000 in
theorem gX9_stripSees_X9_photoSees : GoodIn wsX9_stripSees (wsV RX9 104 RX9 yX9_photoSees wsX9_photoSees) := goodIn_app (goodIn_of _ (by decide +kernel)) ggX9_stripSees_X9_photoSees
theorem dX9_stripSees_0 : decode cX9_stripSees 0 = .ok (.iconst 0, 1) := by decide +kernel
theorem dX9_stripSees_1 : decode cX9_stripSees 1 = .ok (.istore_n 3, 1) := by decide +kernel
theorem dX9_stripSees_2 : decode cX9_stripSees 2 = .ok (.iload_n 3, 1) := by decide +kernel
theorem dX9_stripSees_3 : decode cX9_stripSees 3 = .ok (.aload_n 0, 1) := by decide +kernel
theorem dX9_stripSees_4 : decode cX9_stripSees 4 = .ok (.iload_n 1, 1) := by decide +kernel
theorem dX9_stripSees_5 : decode cX9_stripSees 5 = .ok (.invokevirtual 83, 3) := by decide +kernel
theorem dX9_stripSees_8 : decode cX9_stripSees 8 = .ok (.if_icmp .ge 21, 3) := by decide +kernel
theorem dX9_stripSees_11 : decode cX9_stripSees 11 = .ok (.aload_n 0, 1) := by decide +kernel
theorem dX9_stripSees_12 : decode cX9_stripSees 12 = .ok (.iload_n 1, 1) := by decide +kernel
theorem dX9_stripSees_13 : decode cX9_stripSees 13 = .ok (.iload_n 3, 1) := by decide +kernel
theorem dX9_stripSees_14 : decode cX9_stripSees 14 = .ok (.iload_n 2, 1) := by decide +kernel
theorem dX9_stripSees_15 : decode cX9_stripSees 15 = .ok (.invokevirtual 104, 3) := by decide +kernel
theorem dX9_stripSees_18 : decode cX9_stripSees 18 = .ok (.ifCond .eq 5, 3) := by decide +kernel
theorem dX9_stripSees_21 : decode cX9_stripSees 21 = .ok (.iconst 1, 1) := by decide +kernel
theorem dX9_stripSees_22 : decode cX9_stripSees 22 = .ok (.ireturn, 1) := by decide +kernel
theorem dX9_stripSees_23 : decode cX9_stripSees 23 = .ok (.iinc 3 1, 3) := by decide +kernel
theorem dX9_stripSees_26 : decode cX9_stripSees 26 = .ok (.goto (-24), 3) := by decide +kernel
theorem dX9_stripSees_29 : decode cX9_stripSees 29 = .ok (.iconst 0, 1) := by decide +kernel
theorem dX9_stripSees_30 : decode cX9_stripSees 30 = .ok (.ireturn, 1) := by decide +kernel
set_option maxRecDepth 20000 in
theorem ggX9_sideOverlap_X9_isStrip : GoodIn wsX9_sideOverlap wsX9_isStrip := goodIn_r _ [7, 8, 9, 10, 6, 11, 54, 55, 56, 57, 58, 59, 60, 61, 62, 63, 64, 65, 66, 67, 68, 69, 70, 71, 72, 73] (by decide +kernel) (by decide +kernel)
set_option maxRecDepth 20000 in
theorem gX9_sideOverlap_X9_isStrip : GoodIn wsX9_sideOverlap (wsV RX9 79 RX9 yX9_isStrip wsX9_isStrip) := goodIn_app (goodIn_of _ (by decide +kernel)) ggX9_sideOverlap_X9_isStrip
set_option maxRecDepth 20000 in
theorem ggX9_sideOverlap_X9_stripSees : GoodIn wsX9_sideOverlap wsX9_stripSees := goodIn_r _ [15, 16, 17, 18, 6, 19, 20, 21, 22, 23, 24, 25, 26, 27, 2, 28, 29, 30, 31, 32, 33, 34, 35, 36, 37, 38, 39, 40, 41, 42, 43, 44, 45, 46, 47, 48, 49, 50, 54, 55, 56, 57, 58, 59, 60, 61, 62, 63, 64, 65, 66, 67, 68, 69, 70, 71, 72, 73] (by decide +kernel) (by decide +kernel)
set_option maxRecDepth 20000 in
theorem gX9_sideOverlap_X9_stripSees : GoodIn wsX9_sideOverlap (wsV RX9 120 RX9 yX9_stripSees wsX9_stripSees) := goodIn_app (goodIn_of _ (by decide +kernel)) ggX9_sideOverlap_X9_stripSees
set_option maxRecDepth 20000 in
theorem ggX9_sideOverlap_X9_percent : GoodIn wsX9_sideOverlap wsX9_percent := goodIn_r _ [53] (by decide +kernel) (by decide +kernel)
set_option maxRecDepth 20000 in
theorem gX9_sideOverlap_X9_percent : GoodIn wsX9_sideOverlap (va_wsS RX9 116 yX9_percent wsX9_percent) := goodIn_app (goodIn_of _ (by decide +kernel)) ggX9_sideOverlap_X9_percent
theorem dX9_sideOverlap_0 : decode cX9_sideOverlap 0 = .ok (.aload_n 0, 1) := by decide +kernel
theorem dX9_sideOverlap_1 : decode cX9_sideOverlap 1 = .ok (.iload_n 1, 1) := by decide +kernel
theorem dX9_sideOverlap_2 : decode cX9_sideOverlap 2 = .ok (.invokevirtual 79, 3) := by decide +kernel
theorem dX9_sideOverlap_5 : decode cX9_sideOverlap 5 = .ok (.ifCond .eq 11, 3) := by decide +kernel
theorem dX9_sideOverlap_8 : decode cX9_sideOverlap 8 = .ok (.aload_n 0, 1) := by decide +kernel
theorem dX9_sideOverlap_9 : decode cX9_sideOverlap 9 = .ok (.iload_n 2, 1) := by decide +kernel
theorem dX9_sideOverlap_10 : decode cX9_sideOverlap 10 = .ok (.invokevirtual 79, 3) := by decide +kernel
theorem dX9_sideOverlap_13 : decode cX9_sideOverlap 13 = .ok (.ifCond .ne 6, 3) := by decide +kernel
theorem dX9_sideOverlap_16 : decode cX9_sideOverlap 16 = .ok (.bipush (-2), 2) := by decide +kernel
theorem dX9_sideOverlap_18 : decode cX9_sideOverlap 18 = .ok (.ireturn, 1) := by decide +kernel
theorem dX9_sideOverlap_19 : decode cX9_sideOverlap 19 = .ok (.iconst 0, 1) := by decide +kernel
theorem dX9_sideOverlap_20 : decode cX9_sideOverlap 20 = .ok (.istore_n 3, 1) := by decide +kernel
theorem dX9_sideOverlap_21 : decode cX9_sideOverlap 21 = .ok (.iconst 0, 1) := by decide +kernel
theorem dX9_sideOverlap_22 : decode cX9_sideOverlap 22 = .ok (.istore 4, 2) := by decide +kernel
theorem dX9_sideOverlap_24 : decode cX9_sideOverlap 24 = .ok (.iconst 0, 1) := by decide +kernel
theorem dX9_sideOverlap_25 : decode cX9_sideOverlap 25 = .ok (.istore 5, 2) := by decide +kernel
theorem dX9_sideOverlap_27 : decode cX9_sideOverlap 27 = .ok (.iconst 0, 1) := by decide +kernel
theorem dX9_sideOverlap_28 : decode cX9_sideOverlap 28 = .ok (.istore 6, 2) := by decide +kernel
theorem dX9_sideOverlap_30 : decode cX9_sideOverlap 30 = .ok (.iload 6, 2) := by decide +kernel
theorem dX9_sideOverlap_32 : decode cX9_sideOverlap 32 = .ok (.aload_n 0, 1) := by decide +kernel
theorem dX9_sideOverlap_33 : decode cX9_sideOverlap 33 = .ok (.getfield 48, 3) := by decide +kernel
theorem dX9_sideOverlap_36 : decode cX9_sideOverlap 36 = .ok (.aload_n 0, 1) := by decide +kernel
theorem dX9_sideOverlap_37 : decode cX9_sideOverlap 37 = .ok (.getfield 51, 3) := by decide +kernel
theorem dX9_sideOverlap_40 : decode cX9_sideOverlap 40 = .ok (.imul, 1) := by decide +kernel
theorem dX9_sideOverlap_41 : decode cX9_sideOverlap 41 = .ok (.if_icmp .ge 75, 3) := by decide +kernel
theorem dX9_sideOverlap_44 : decode cX9_sideOverlap 44 = .ok (.aload_n 0, 1) := by decide +kernel
theorem dX9_sideOverlap_45 : decode cX9_sideOverlap 45 = .ok (.iload_n 1, 1) := by decide +kernel
theorem dX9_sideOverlap_46 : decode cX9_sideOverlap 46 = .ok (.iload 6, 2) := by decide +kernel
theorem dX9_sideOverlap_48 : decode cX9_sideOverlap 48 = .ok (.invokevirtual 120, 3) := by decide +kernel
theorem dX9_sideOverlap_51 : decode cX9_sideOverlap 51 = .ok (.istore 7, 2) := by decide +kernel
theorem dX9_sideOverlap_53 : decode cX9_sideOverlap 53 = .ok (.aload_n 0, 1) := by decide +kernel
theorem dX9_sideOverlap_54 : decode cX9_sideOverlap 54 = .ok (.iload_n 2, 1) := by decide +kernel
theorem dX9_sideOverlap_55 : decode cX9_sideOverlap 55 = .ok (.iload 6, 2) := by decide +kernel
theorem dX9_sideOverlap_57 : decode cX9_sideOverlap 57 = .ok (.invokevirtual 120, 3) := by decide +kernel
theorem dX9_sideOverlap_60 : decode cX9_sideOverlap 60 = .ok (.istore 8, 2) := by decide +kernel
theorem dX9_sideOverlap_62 : decode cX9_sideOverlap 62 = .ok (.iload_n 3, 1) := by decide +kernel
theorem dX9_sideOverlap_63 : decode cX9_sideOverlap 63 = .ok (.iload 7, 2) := by decide +kernel
theorem dX9_sideOverlap_65 : decode cX9_sideOverlap 65 = .ok (.ifCond .eq 12, 3) := by decide +kernel
theorem dX9_sideOverlap_68 : decode cX9_sideOverlap 68 = .ok (.iload 8, 2) := by decide +kernel
theorem dX9_sideOverlap_70 : decode cX9_sideOverlap 70 = .ok (.ifCond .eq 7, 3) := by decide +kernel
theorem dX9_sideOverlap_73 : decode cX9_sideOverlap 73 = .ok (.iconst 1, 1) := by decide +kernel
theorem dX9_sideOverlap_74 : decode cX9_sideOverlap 74 = .ok (.goto 4, 3) := by decide +kernel
theorem dX9_sideOverlap_77 : decode cX9_sideOverlap 77 = .ok (.iconst 0, 1) := by decide +kernel
theorem dX9_sideOverlap_78 : decode cX9_sideOverlap 78 = .ok (.iadd, 1) := by decide +kernel
theorem dX9_sideOverlap_79 : decode cX9_sideOverlap 79 = .ok (.istore_n 3, 1) := by decide +kernel
theorem dX9_sideOverlap_80 : decode cX9_sideOverlap 80 = .ok (.iload 4, 2) := by decide +kernel
theorem dX9_sideOverlap_82 : decode cX9_sideOverlap 82 = .ok (.iload 7, 2) := by decide +kernel
theorem dX9_sideOverlap_84 : decode cX9_sideOverlap 84 = .ok (.ifCond .eq 7, 3) := by decide +kernel
theorem dX9_sideOverlap_87 : decode cX9_sideOverlap 87 = .ok (.iconst 1, 1) := by decide +kernel
theorem dX9_sideOverlap_88 : decode cX9_sideOverlap 88 = .ok (.goto 4, 3) := by decide +kernel
theorem dX9_sideOverlap_91 : decode cX9_sideOverlap 91 = .ok (.iconst 0, 1) := by decide +kernel
theorem dX9_sideOverlap_92 : decode cX9_sideOverlap 92 = .ok (.iadd, 1) := by decide +kernel
theorem dX9_sideOverlap_93 : decode cX9_sideOverlap 93 = .ok (.istore 4, 2) := by decide +kernel
theorem dX9_sideOverlap_95 : decode cX9_sideOverlap 95 = .ok (.iload 5, 2) := by decide +kernel
theorem dX9_sideOverlap_97 : decode cX9_sideOverlap 97 = .ok (.iload 8, 2) := by decide +kernel
theorem dX9_sideOverlap_99 : decode cX9_sideOverlap 99 = .ok (.ifCond .eq 7, 3) := by decide +kernel
theorem dX9_sideOverlap_102 : decode cX9_sideOverlap 102 = .ok (.iconst 1, 1) := by decide +kernel
theorem dX9_sideOverlap_103 : decode cX9_sideOverlap 103 = .ok (.goto 4, 3) := by decide +kernel
theorem dX9_sideOverlap_106 : decode cX9_sideOverlap 106 = .ok (.iconst 0, 1) := by decide +kernel
theorem dX9_sideOverlap_107 : decode cX9_sideOverlap 107 = .ok (.iadd, 1) := by decide +kernel
theorem dX9_sideOverlap_108 : decode cX9_sideOverlap 108 = .ok (.istore 5, 2) := by decide +kernel
theorem dX9_sideOverlap_110 : decode cX9_sideOverlap 110 = .ok (.iinc 6 1, 3) := by decide +kernel
theorem dX9_sideOverlap_113 : decode cX9_sideOverlap 113 = .ok (.goto (-83), 3) := by decide +kernel
theorem dX9_sideOverlap_116 : decode cX9_sideOverlap 116 = .ok (.iload_n 3, 1) := by decide +kernel
theorem dX9_sideOverlap_117 : decode cX9_sideOverlap 117 = .ok (.iload 4, 2) := by decide +kernel
theorem dX9_sideOverlap_119 : decode cX9_sideOverlap 119 = .ok (.iload 5, 2) := by decide +kernel
theorem dX9_sideOverlap_121 : decode cX9_sideOverlap 121 = .ok (.invokestatic 116, 3) := by decide +kernel
theorem dX9_sideOverlap_124 : decode cX9_sideOverlap 124 = .ok (.ireturn, 1) := by decide +kernel
set_option maxRecDepth 20000 in
theorem ggX9_layOutVisibility_X9_sees : GoodIn wsX9_layOutVisibility wsX9_sees := goodIn_r _ [8, 9, 10, 11, 12, 13, 14, 15, 7, 16, 17, 18, 19, 20, 21, 22, 23, 24, 25, 26, 27, 28, 29, 30, 31, 32, 33, 34, 35, 36, 37, 38, 39, 40, 41, 42, 43] (by decide +kernel) (by decide +kernel)
set_option maxRecDepth 20000 in
theorem gX9_layOutVisibility_X9_sees : GoodIn wsX9_layOutVisibility (wsV RX9 100 RX9 yX9_sees wsX9_sees) := goodIn_app (goodIn_of _ (by decide +kernel)) ggX9_layOutVisibility_X9_sees
theorem dX9_layOutVisibility_0 : decode cX9_layOutVisibility 0 = .ok (.aload_n 0, 1) := by decide +kernel
theorem dX9_layOutVisibility_1 : decode cX9_layOutVisibility 1 = .ok (.getfield 48, 3) := by decide +kernel
theorem dX9_layOutVisibility_4 : decode cX9_layOutVisibility 4 = .ok (.aload_n 0, 1) := by decide +kernel
theorem dX9_layOutVisibility_5 : decode cX9_layOutVisibility 5 = .ok (.getfield 51, 3) := by decide +kernel
theorem dX9_layOutVisibility_8 : decode cX9_layOutVisibility 8 = .ok (.imul, 1) := by decide +kernel
theorem dX9_layOutVisibility_9 : decode cX9_layOutVisibility 9 = .ok (.istore_n 1, 1) := by decide +kernel
theorem dX9_layOutVisibility_10 : decode cX9_layOutVisibility 10 = .ok (.iconst 0, 1) := by decide +kernel
theorem dX9_layOutVisibility_11 : decode cX9_layOutVisibility 11 = .ok (.istore_n 2, 1) := by decide +kernel
theorem dX9_layOutVisibility_12 : decode cX9_layOutVisibility 12 = .ok (.iload_n 2, 1) := by decide +kernel
theorem dX9_layOutVisibility_13 : decode cX9_layOutVisibility 13 = .ok (.iload_n 1, 1) := by decide +kernel
theorem dX9_layOutVisibility_14 : decode cX9_layOutVisibility 14 = .ok (.if_icmp .ge 62, 3) := by decide +kernel
theorem dX9_layOutVisibility_17 : decode cX9_layOutVisibility 17 = .ok (.iconst 0, 1) := by decide +kernel
theorem dX9_layOutVisibility_18 : decode cX9_layOutVisibility 18 = .ok (.istore_n 3, 1) := by decide +kernel
theorem dX9_layOutVisibility_19 : decode cX9_layOutVisibility 19 = .ok (.iload_n 3, 1) := by decide +kernel
theorem dX9_layOutVisibility_20 : decode cX9_layOutVisibility 20 = .ok (.iload_n 1, 1) := by decide +kernel
theorem dX9_layOutVisibility_21 : decode cX9_layOutVisibility 21 = .ok (.if_icmp .ge 49, 3) := by decide +kernel
theorem dX9_layOutVisibility_24 : decode cX9_layOutVisibility 24 = .ok (.aload_n 0, 1) := by decide +kernel
theorem dX9_layOutVisibility_25 : decode cX9_layOutVisibility 25 = .ok (.getfield 41, 3) := by decide +kernel
theorem dX9_layOutVisibility_28 : decode cX9_layOutVisibility 28 = .ok (.sipush 160, 3) := by decide +kernel
theorem dX9_layOutVisibility_31 : decode cX9_layOutVisibility 31 = .ok (.iload_n 2, 1) := by decide +kernel
theorem dX9_layOutVisibility_32 : decode cX9_layOutVisibility 32 = .ok (.imul, 1) := by decide +kernel
theorem dX9_layOutVisibility_33 : decode cX9_layOutVisibility 33 = .ok (.iload_n 3, 1) := by decide +kernel
theorem dX9_layOutVisibility_34 : decode cX9_layOutVisibility 34 = .ok (.iadd, 1) := by decide +kernel
theorem dX9_layOutVisibility_35 : decode cX9_layOutVisibility 35 = .ok (.aload_n 0, 1) := by decide +kernel
theorem dX9_layOutVisibility_36 : decode cX9_layOutVisibility 36 = .ok (.iload_n 2, 1) := by decide +kernel
theorem dX9_layOutVisibility_37 : decode cX9_layOutVisibility 37 = .ok (.aload_n 0, 1) := by decide +kernel
theorem dX9_layOutVisibility_38 : decode cX9_layOutVisibility 38 = .ok (.getfield 51, 3) := by decide +kernel
theorem dX9_layOutVisibility_41 : decode cX9_layOutVisibility 41 = .ok (.idiv, 1) := by decide +kernel
theorem dX9_layOutVisibility_42 : decode cX9_layOutVisibility 42 = .ok (.iload_n 2, 1) := by decide +kernel
theorem dX9_layOutVisibility_43 : decode cX9_layOutVisibility 43 = .ok (.aload_n 0, 1) := by decide +kernel
theorem dX9_layOutVisibility_44 : decode cX9_layOutVisibility 44 = .ok (.getfield 51, 3) := by decide +kernel
theorem dX9_layOutVisibility_47 : decode cX9_layOutVisibility 47 = .ok (.irem, 1) := by decide +kernel
theorem dX9_layOutVisibility_48 : decode cX9_layOutVisibility 48 = .ok (.iload_n 3, 1) := by decide +kernel
theorem dX9_layOutVisibility_49 : decode cX9_layOutVisibility 49 = .ok (.aload_n 0, 1) := by decide +kernel
theorem dX9_layOutVisibility_50 : decode cX9_layOutVisibility 50 = .ok (.getfield 51, 3) := by decide +kernel
theorem dX9_layOutVisibility_53 : decode cX9_layOutVisibility 53 = .ok (.idiv, 1) := by decide +kernel
theorem dX9_layOutVisibility_54 : decode cX9_layOutVisibility 54 = .ok (.iload_n 3, 1) := by decide +kernel
theorem dX9_layOutVisibility_55 : decode cX9_layOutVisibility 55 = .ok (.aload_n 0, 1) := by decide +kernel
theorem dX9_layOutVisibility_56 : decode cX9_layOutVisibility 56 = .ok (.getfield 51, 3) := by decide +kernel
theorem dX9_layOutVisibility_59 : decode cX9_layOutVisibility 59 = .ok (.irem, 1) := by decide +kernel
theorem dX9_layOutVisibility_60 : decode cX9_layOutVisibility 60 = .ok (.invokevirtual 100, 3) := by decide +kernel
theorem dX9_layOutVisibility_63 : decode cX9_layOutVisibility 63 = .ok (.bastore, 1) := by decide +kernel
theorem dX9_layOutVisibility_64 : decode cX9_layOutVisibility 64 = .ok (.iinc 3 1, 3) := by decide +kernel
theorem dX9_layOutVisibility_67 : decode cX9_layOutVisibility 67 = .ok (.goto (-48), 3) := by decide +kernel
theorem dX9_layOutVisibility_70 : decode cX9_layOutVisibility 70 = .ok (.iinc 2 1, 3) := by decide +kernel
theorem dX9_layOutVisibility_73 : decode cX9_layOutVisibility 73 = .ok (.goto (-61), 3) := by decide +kernel
theorem dX9_layOutVisibility_76 : decode cX9_layOutVisibility 76 = .ok (.return_, 1) := by decide +kernel
theorem dX9_isCovered_0 : decode cX9_isCovered 0 = .ok (.iconst 0, 1) := by decide +kernel
theorem dX9_isCovered_1 : decode cX9_isCovered 1 = .ok (.istore 5, 2) := by decide +kernel
theorem dX9_isCovered_3 : decode cX9_isCovered 3 = .ok (.iload_n 3, 1) := by decide +kernel
theorem dX9_isCovered_4 : decode cX9_isCovered 4 = .ok (.iconst 2, 1) := by decide +kernel
theorem dX9_isCovered_5 : decode cX9_isCovered 5 = .ok (.idiv, 1) := by decide +kernel
theorem dX9_isCovered_6 : decode cX9_isCovered 6 = .ok (.istore 6, 2) := by decide +kernel
theorem dX9_isCovered_8 : decode cX9_isCovered 8 = .ok (.iload 6, 2) := by decide +kernel
theorem dX9_isCovered_10 : decode cX9_isCovered 10 = .ok (.aload_n 0, 1) := by decide +kernel
theorem dX9_isCovered_11 : decode cX9_isCovered 11 = .ok (.getfield 48, 3) := by decide +kernel
theorem dX9_isCovered_14 : decode cX9_isCovered 14 = .ok (.if_icmp .ge 68, 3) := by decide +kernel
theorem dX9_isCovered_17 : decode cX9_isCovered 17 = .ok (.iconst 0, 1) := by decide +kernel
theorem dX9_isCovered_18 : decode cX9_isCovered 18 = .ok (.istore 7, 2) := by decide +kernel
theorem dX9_isCovered_20 : decode cX9_isCovered 20 = .ok (.iload 7, 2) := by decide +kernel
theorem dX9_isCovered_22 : decode cX9_isCovered 22 = .ok (.aload_n 0, 1) := by decide +kernel
theorem dX9_isCovered_23 : decode cX9_isCovered 23 = .ok (.getfield 51, 3) := by decide +kernel
theorem dX9_isCovered_26 : decode cX9_isCovered 26 = .ok (.if_icmp .ge 47, 3) := by decide +kernel
theorem dX9_isCovered_29 : decode cX9_isCovered 29 = .ok (.iload 5, 2) := by decide +kernel
theorem dX9_isCovered_31 : decode cX9_isCovered 31 = .ok (.aload_n 0, 1) := by decide +kernel
theorem dX9_isCovered_32 : decode cX9_isCovered 32 = .ok (.getfield 41, 3) := by decide +kernel
theorem dX9_isCovered_35 : decode cX9_isCovered 35 = .ok (.sipush 160, 3) := by decide +kernel
theorem dX9_isCovered_38 : decode cX9_isCovered 38 = .ok (.aload_n 0, 1) := by decide +kernel
theorem dX9_isCovered_39 : decode cX9_isCovered 39 = .ok (.getfield 51, 3) := by decide +kernel
theorem dX9_isCovered_42 : decode cX9_isCovered 42 = .ok (.iload 6, 2) := by decide +kernel
theorem dX9_isCovered_44 : decode cX9_isCovered 44 = .ok (.imul, 1) := by decide +kernel
theorem dX9_isCovered_45 : decode cX9_isCovered 45 = .ok (.iload 7, 2) := by decide +kernel
theorem dX9_isCovered_47 : decode cX9_isCovered 47 = .ok (.iadd, 1) := by decide +kernel
theorem dX9_isCovered_48 : decode cX9_isCovered 48 = .ok (.imul, 1) := by decide +kernel
theorem dX9_isCovered_49 : decode cX9_isCovered 49 = .ok (.iload_n 1, 1) := by decide +kernel
theorem dX9_isCovered_50 : decode cX9_isCovered 50 = .ok (.iadd, 1) := by decide +kernel
theorem dX9_isCovered_51 : decode cX9_isCovered 51 = .ok (.baload, 1) := by decide +kernel
theorem dX9_isCovered_52 : decode cX9_isCovered 52 = .ok (.ifCond .eq 7, 3) := by decide +kernel
theorem dX9_isCovered_55 : decode cX9_isCovered 55 = .ok (.iconst 1, 1) := by decide +kernel
theorem dX9_isCovered_56 : decode cX9_isCovered 56 = .ok (.goto 4, 3) := by decide +kernel
theorem dX9_isCovered_59 : decode cX9_isCovered 59 = .ok (.iconst 0, 1) := by decide +kernel
theorem dX9_isCovered_60 : decode cX9_isCovered 60 = .ok (.iadd, 1) := by decide +kernel
theorem dX9_isCovered_61 : decode cX9_isCovered 61 = .ok (.istore 5, 2) := by decide +kernel
theorem dX9_isCovered_63 : decode cX9_isCovered 63 = .ok (.iload 7, 2) := by decide +kernel
theorem dX9_isCovered_65 : decode cX9_isCovered 65 = .ok (.iload 4, 2) := by decide +kernel
theorem dX9_isCovered_67 : decode cX9_isCovered 67 = .ok (.iadd, 1) := by decide +kernel
theorem dX9_isCovered_68 : decode cX9_isCovered 68 = .ok (.istore 7, 2) := by decide +kernel
theorem dX9_isCovered_70 : decode cX9_isCovered 70 = .ok (.goto (-50), 3) := by decide +kernel
theorem dX9_isCovered_73 : decode cX9_isCovered 73 = .ok (.iload 6, 2) := by decide +kernel
theorem dX9_isCovered_75 : decode cX9_isCovered 75 = .ok (.iload_n 3, 1) := by decide +kernel
theorem dX9_isCovered_76 : decode cX9_isCovered 76 = .ok (.iadd, 1) := by decide +kernel
theorem dX9_isCovered_77 : decode cX9_isCovered 77 = .ok (.istore 6, 2) := by decide +kernel
theorem dX9_isCovered_79 : decode cX9_isCovered 79 = .ok (.goto (-71), 3) := by decide +kernel
theorem dX9_isCovered_82 : decode cX9_isCovered 82 = .ok (.iload 5, 2) := by decide +kernel
theorem dX9_isCovered_84 : decode cX9_isCovered 84 = .ok (.iload_n 2, 1) := by decide +kernel
theorem dX9_isCovered_85 : decode cX9_isCovered 85 = .ok (.if_icmp .lt 7, 3) := by decide +kernel
theorem dX9_isCovered_88 : decode cX9_isCovered 88 = .ok (.iconst 1, 1) := by decide +kernel
theorem dX9_isCovered_89 : decode cX9_isCovered 89 = .ok (.goto 4, 3) := by decide +kernel
theorem dX9_isCovered_92 : decode cX9_isCovered 92 = .ok (.iconst 0, 1) := by decide +kernel
theorem dX9_isCovered_93 : decode cX9_isCovered 93 = .ok (.ireturn, 1) := by decide +kernel
set_option maxRecDepth 20000 in
theorem ggX9_photosBy_X9_isCovered : GoodIn wsX9_photosBy wsX9_isCovered := goodIn_r _ [8, 1, 3, 9, 10, 11, 12, 13, 14, 15, 16, 17, 18, 19, 20, 21, 22, 23, 24, 25, 26, 27, 28, 29] (by decide +kernel) (by decide +kernel)
set_option maxRecDepth 20000 in
theorem gX9_photosBy_X9_isCovered : GoodIn wsX9_photosBy (wsV RX9 124 RX9 yX9_isCovered wsX9_isCovered) := goodIn_app (goodIn_of _ (by decide +kernel)) ggX9_photosBy_X9_isCovered
theorem dX9_photosBy_0 : decode cX9_photosBy 0 = .ok (.aload_n 0, 1) := by decide +kernel
theorem dX9_photosBy_1 : decode cX9_photosBy 1 = .ok (.getfield 48, 3) := by decide +kernel
theorem dX9_photosBy_4 : decode cX9_photosBy 4 = .ok (.iconst 1, 1) := by decide +kernel
theorem dX9_photosBy_5 : decode cX9_photosBy 5 = .ok (.isub, 1) := by decide +kernel
theorem dX9_photosBy_6 : decode cX9_photosBy 6 = .ok (.iload_n 2, 1) := by decide +kernel
theorem dX9_photosBy_7 : decode cX9_photosBy 7 = .ok (.iconst 2, 1) := by decide +kernel
theorem dX9_photosBy_8 : decode cX9_photosBy 8 = .ok (.idiv, 1) := by decide +kernel
theorem dX9_photosBy_9 : decode cX9_photosBy 9 = .ok (.isub, 1) := by decide +kernel
theorem dX9_photosBy_10 : decode cX9_photosBy 10 = .ok (.iload_n 2, 1) := by decide +kernel
theorem dX9_photosBy_11 : decode cX9_photosBy 11 = .ok (.idiv, 1) := by decide +kernel
theorem dX9_photosBy_12 : decode cX9_photosBy 12 = .ok (.iconst 1, 1) := by decide +kernel
theorem dX9_photosBy_13 : decode cX9_photosBy 13 = .ok (.iadd, 1) := by decide +kernel
theorem dX9_photosBy_14 : decode cX9_photosBy 14 = .ok (.istore 4, 2) := by decide +kernel
theorem dX9_photosBy_16 : decode cX9_photosBy 16 = .ok (.iload 4, 2) := by decide +kernel
theorem dX9_photosBy_18 : decode cX9_photosBy 18 = .ok (.bipush 8, 2) := by decide +kernel
theorem dX9_photosBy_20 : decode cX9_photosBy 20 = .ok (.if_icmp .le 6, 3) := by decide +kernel
theorem dX9_photosBy_23 : decode cX9_photosBy 23 = .ok (.ldc 123, 2) := by decide +kernel
theorem dX9_photosBy_25 : decode cX9_photosBy 25 = .ok (.ireturn, 1) := by decide +kernel
theorem dX9_photosBy_26 : decode cX9_photosBy 26 = .ok (.iconst 0, 1) := by decide +kernel
theorem dX9_photosBy_27 : decode cX9_photosBy 27 = .ok (.istore 5, 2) := by decide +kernel
theorem dX9_photosBy_29 : decode cX9_photosBy 29 = .ok (.iload 5, 2) := by decide +kernel
theorem dX9_photosBy_31 : decode cX9_photosBy 31 = .ok (.aload_n 0, 1) := by decide +kernel
theorem dX9_photosBy_32 : decode cX9_photosBy 32 = .ok (.getfield 48, 3) := by decide +kernel
theorem dX9_photosBy_35 : decode cX9_photosBy 35 = .ok (.aload_n 0, 1) := by decide +kernel
theorem dX9_photosBy_36 : decode cX9_photosBy 36 = .ok (.getfield 51, 3) := by decide +kernel
theorem dX9_photosBy_39 : decode cX9_photosBy 39 = .ok (.imul, 1) := by decide +kernel
theorem dX9_photosBy_40 : decode cX9_photosBy 40 = .ok (.if_icmp .ge 24, 3) := by decide +kernel
theorem dX9_photosBy_43 : decode cX9_photosBy 43 = .ok (.aload_n 0, 1) := by decide +kernel
theorem dX9_photosBy_44 : decode cX9_photosBy 44 = .ok (.iload 5, 2) := by decide +kernel
theorem dX9_photosBy_46 : decode cX9_photosBy 46 = .ok (.iload_n 1, 1) := by decide +kernel
theorem dX9_photosBy_47 : decode cX9_photosBy 47 = .ok (.iload_n 2, 1) := by decide +kernel
theorem dX9_photosBy_48 : decode cX9_photosBy 48 = .ok (.iload_n 3, 1) := by decide +kernel
theorem dX9_photosBy_49 : decode cX9_photosBy 49 = .ok (.invokevirtual 124, 3) := by decide +kernel
theorem dX9_photosBy_52 : decode cX9_photosBy 52 = .ok (.ifCond .ne 6, 3) := by decide +kernel
theorem dX9_photosBy_55 : decode cX9_photosBy 55 = .ok (.ldc 123, 2) := by decide +kernel
theorem dX9_photosBy_57 : decode cX9_photosBy 57 = .ok (.ireturn, 1) := by decide +kernel
theorem dX9_photosBy_58 : decode cX9_photosBy 58 = .ok (.iinc 5 1, 3) := by decide +kernel
theorem dX9_photosBy_61 : decode cX9_photosBy 61 = .ok (.goto (-32), 3) := by decide +kernel
theorem dX9_photosBy_64 : decode cX9_photosBy 64 = .ok (.iload 4, 2) := by decide +kernel
theorem dX9_photosBy_66 : decode cX9_photosBy 66 = .ok (.aload_n 0, 1) := by decide +kernel
theorem dX9_photosBy_67 : decode cX9_photosBy 67 = .ok (.getfield 51, 3) := by decide +kernel
theorem dX9_photosBy_70 : decode cX9_photosBy 70 = .ok (.iconst 1, 1) := by decide +kernel
theorem dX9_photosBy_71 : decode cX9_photosBy 71 = .ok (.isub, 1) := by decide +kernel
theorem dX9_photosBy_72 : decode cX9_photosBy 72 = .ok (.iload_n 3, 1) := by decide +kernel
theorem dX9_photosBy_73 : decode cX9_photosBy 73 = .ok (.idiv, 1) := by decide +kernel
theorem dX9_photosBy_74 : decode cX9_photosBy 74 = .ok (.iconst 1, 1) := by decide +kernel
theorem dX9_photosBy_75 : decode cX9_photosBy 75 = .ok (.iadd, 1) := by decide +kernel
theorem dX9_photosBy_76 : decode cX9_photosBy 76 = .ok (.imul, 1) := by decide +kernel
theorem dX9_photosBy_77 : decode cX9_photosBy 77 = .ok (.ireturn, 1) := by decide +kernel
set_option maxRecDepth 20000 in
theorem ggX9_findPlan_X9_layOutVisibility : GoodIn wsX9_findPlan wsX9_layOutVisibility := goodIn_r _ [11, 3, 4, 12, 13, 14, 15, 10, 16, 17, 18, 19, 20, 21, 22, 23, 24, 25, 26, 27, 28, 29, 30, 31, 40, 41, 42, 43, 44, 45, 46, 47, 48, 49, 50, 51, 52, 53, 54, 55, 56, 57, 58, 59] (by decide +kernel) (by decide +kernel)
set_option maxRecDepth 20000 in
theorem gX9_findPlan_X9_layOutVisibility : GoodIn wsX9_findPlan (wsV RX9 127 RX9 yX9_layOutVisibility wsX9_layOutVisibility) := goodIn_app (goodIn_of _ (by decide +kernel)) ggX9_findPlan_X9_layOutVisibility
set_option maxRecDepth 20000 in
theorem ggX9_findPlan_X9_photosBy : GoodIn wsX9_findPlan wsX9_photosBy := goodIn_r _ [35, 3, 1, 4, 36, 37, 38, 10, 39, 12, 40, 41, 42, 43, 44, 45, 46, 47, 48, 49, 50, 51, 52, 53, 54, 55, 56, 57, 58, 59] (by decide +kernel) (by decide +kernel)
set_option maxRecDepth 20000 in
theorem gX9_findPlan_X9_photosBy : GoodIn wsX9_findPlan (wsV RX9 133 RX9 yX9_photosBy wsX9_photosBy) := goodIn_app (goodIn_of _ (by decide +kernel)) ggX9_findPlan_X9_photosBy
theorem dX9_findPlan_0 : decode cX9_findPlan 0 = .ok (.aload_n 0, 1) := by decide +kernel
theorem dX9_findPlan_1 : decode cX9_findPlan 1 = .ok (.invokevirtual 127, 3) := by decide +kernel
theorem dX9_findPlan_4 : decode cX9_findPlan 4 = .ok (.aload_n 0, 1) := by decide +kernel
theorem dX9_findPlan_5 : decode cX9_findPlan 5 = .ok (.ldc 123, 2) := by decide +kernel
theorem dX9_findPlan_7 : decode cX9_findPlan 7 = .ok (.putfield 130, 3) := by decide +kernel
theorem dX9_findPlan_10 : decode cX9_findPlan 10 = .ok (.aload_n 0, 1) := by decide +kernel
theorem dX9_findPlan_11 : decode cX9_findPlan 11 = .ok (.getfield 48, 3) := by decide +kernel
theorem dX9_findPlan_14 : decode cX9_findPlan 14 = .ok (.istore_n 2, 1) := by decide +kernel
theorem dX9_findPlan_15 : decode cX9_findPlan 15 = .ok (.iload_n 2, 1) := by decide +kernel
theorem dX9_findPlan_16 : decode cX9_findPlan 16 = .ok (.ifCond .le 101, 3) := by decide +kernel
theorem dX9_findPlan_19 : decode cX9_findPlan 19 = .ok (.aload_n 0, 1) := by decide +kernel
theorem dX9_findPlan_20 : decode cX9_findPlan 20 = .ok (.getfield 51, 3) := by decide +kernel
theorem dX9_findPlan_23 : decode cX9_findPlan 23 = .ok (.istore_n 3, 1) := by decide +kernel
theorem dX9_findPlan_24 : decode cX9_findPlan 24 = .ok (.iload_n 3, 1) := by decide +kernel
theorem dX9_findPlan_25 : decode cX9_findPlan 25 = .ok (.ifCond .le 86, 3) := by decide +kernel
theorem dX9_findPlan_28 : decode cX9_findPlan 28 = .ok (.aload_n 0, 1) := by decide +kernel
theorem dX9_findPlan_29 : decode cX9_findPlan 29 = .ok (.iload_n 1, 1) := by decide +kernel
theorem dX9_findPlan_30 : decode cX9_findPlan 30 = .ok (.iload_n 2, 1) := by decide +kernel
theorem dX9_findPlan_31 : decode cX9_findPlan 31 = .ok (.iload_n 3, 1) := by decide +kernel
theorem dX9_findPlan_32 : decode cX9_findPlan 32 = .ok (.invokevirtual 133, 3) := by decide +kernel
theorem dX9_findPlan_35 : decode cX9_findPlan 35 = .ok (.istore 4, 2) := by decide +kernel
theorem dX9_findPlan_37 : decode cX9_findPlan 37 = .ok (.iload 4, 2) := by decide +kernel
theorem dX9_findPlan_39 : decode cX9_findPlan 39 = .ok (.aload_n 0, 1) := by decide +kernel
theorem dX9_findPlan_40 : decode cX9_findPlan 40 = .ok (.getfield 130, 3) := by decide +kernel
theorem dX9_findPlan_43 : decode cX9_findPlan 43 = .ok (.if_icmp .ge 7, 3) := by decide +kernel
theorem dX9_findPlan_46 : decode cX9_findPlan 46 = .ok (.iconst 1, 1) := by decide +kernel
theorem dX9_findPlan_47 : decode cX9_findPlan 47 = .ok (.goto 4, 3) := by decide +kernel
theorem dX9_findPlan_50 : decode cX9_findPlan 50 = .ok (.iconst 0, 1) := by decide +kernel
theorem dX9_findPlan_51 : decode cX9_findPlan 51 = .ok (.istore 5, 2) := by decide +kernel
theorem dX9_findPlan_53 : decode cX9_findPlan 53 = .ok (.aload_n 0, 1) := by decide +kernel
theorem dX9_findPlan_54 : decode cX9_findPlan 54 = .ok (.iload 5, 2) := by decide +kernel
theorem dX9_findPlan_56 : decode cX9_findPlan 56 = .ok (.ifCond .eq 7, 3) := by decide +kernel
theorem dX9_findPlan_59 : decode cX9_findPlan 59 = .ok (.iload_n 2, 1) := by decide +kernel
theorem dX9_findPlan_60 : decode cX9_findPlan 60 = .ok (.goto 7, 3) := by decide +kernel
theorem dX9_findPlan_63 : decode cX9_findPlan 63 = .ok (.aload_n 0, 1) := by decide +kernel
theorem dX9_findPlan_64 : decode cX9_findPlan 64 = .ok (.getfield 136, 3) := by decide +kernel
theorem dX9_findPlan_67 : decode cX9_findPlan 67 = .ok (.putfield 136, 3) := by decide +kernel
theorem dX9_findPlan_70 : decode cX9_findPlan 70 = .ok (.aload_n 0, 1) := by decide +kernel
theorem dX9_findPlan_71 : decode cX9_findPlan 71 = .ok (.iload 5, 2) := by decide +kernel
theorem dX9_findPlan_73 : decode cX9_findPlan 73 = .ok (.ifCond .eq 7, 3) := by decide +kernel
theorem dX9_findPlan_76 : decode cX9_findPlan 76 = .ok (.iload_n 3, 1) := by decide +kernel
theorem dX9_findPlan_77 : decode cX9_findPlan 77 = .ok (.goto 7, 3) := by decide +kernel
theorem dX9_findPlan_80 : decode cX9_findPlan 80 = .ok (.aload_n 0, 1) := by decide +kernel
theorem dX9_findPlan_81 : decode cX9_findPlan 81 = .ok (.getfield 139, 3) := by decide +kernel
theorem dX9_findPlan_84 : decode cX9_findPlan 84 = .ok (.putfield 139, 3) := by decide +kernel
theorem dX9_findPlan_87 : decode cX9_findPlan 87 = .ok (.aload_n 0, 1) := by decide +kernel
theorem dX9_findPlan_88 : decode cX9_findPlan 88 = .ok (.iload 5, 2) := by decide +kernel
theorem dX9_findPlan_90 : decode cX9_findPlan 90 = .ok (.ifCond .eq 8, 3) := by decide +kernel
theorem dX9_findPlan_93 : decode cX9_findPlan 93 = .ok (.iload 4, 2) := by decide +kernel
theorem dX9_findPlan_95 : decode cX9_findPlan 95 = .ok (.goto 7, 3) := by decide +kernel
theorem dX9_findPlan_98 : decode cX9_findPlan 98 = .ok (.aload_n 0, 1) := by decide +kernel
theorem dX9_findPlan_99 : decode cX9_findPlan 99 = .ok (.getfield 130, 3) := by decide +kernel
theorem dX9_findPlan_102 : decode cX9_findPlan 102 = .ok (.putfield 130, 3) := by decide +kernel
theorem dX9_findPlan_105 : decode cX9_findPlan 105 = .ok (.iinc 3 (-1), 3) := by decide +kernel
theorem dX9_findPlan_108 : decode cX9_findPlan 108 = .ok (.goto (-84), 3) := by decide +kernel
theorem dX9_findPlan_111 : decode cX9_findPlan 111 = .ok (.iinc 2 (-1), 3) := by decide +kernel
theorem dX9_findPlan_114 : decode cX9_findPlan 114 = .ok (.goto (-99), 3) := by decide +kernel
theorem dX9_findPlan_117 : decode cX9_findPlan 117 = .ok (.aload_n 0, 1) := by decide +kernel
theorem dX9_findPlan_118 : decode cX9_findPlan 118 = .ok (.getfield 130, 3) := by decide +kernel
theorem dX9_findPlan_121 : decode cX9_findPlan 121 = .ok (.ldc 123, 2) := by decide +kernel
theorem dX9_findPlan_123 : decode cX9_findPlan 123 = .ok (.if_icmp .ge 7, 3) := by decide +kernel
theorem dX9_findPlan_126 : decode cX9_findPlan 126 = .ok (.iconst 1, 1) := by decide +kernel
theorem dX9_findPlan_127 : decode cX9_findPlan 127 = .ok (.goto 4, 3) := by decide +kernel
theorem dX9_findPlan_130 : decode cX9_findPlan 130 = .ok (.iconst 0, 1) := by decide +kernel
theorem dX9_findPlan_131 : decode cX9_findPlan 131 = .ok (.ireturn, 1) := by decide +kernel
set_option maxRecDepth 20000 in
theorem ggX9_planPhotos_X9_isRequired : GoodIn wsX9_planPhotos wsX9_isRequired := goodIn_r _ [5, 6, 7, 4, 8] (by decide +kernel) (by decide +kernel)
set_option maxRecDepth 20000 in
theorem gX9_planPhotos_X9_isRequired : GoodIn wsX9_planPhotos (va_wsS RX9 113 yX9_isRequired wsX9_isRequired) := goodIn_app (goodIn_of _ (by decide +kernel)) ggX9_planPhotos_X9_isRequired
set_option maxRecDepth 20000 in
theorem ggX9_planPhotos_X9_findPlan : GoodIn wsX9_planPhotos wsX9_findPlan := goodIn_r _ [12, 13, 1, 14, 15, 16, 17, 18, 19, 20, 4, 21, 22, 23, 24, 25, 26, 27, 28, 29, 30, 31, 32, 33, 34, 35, 36, 37, 38, 39, 40, 41, 42, 43, 44, 45, 46, 47, 48, 49, 50, 51, 52, 53, 54, 55, 56, 57, 58, 59, 60, 61, 62, 63, 64, 65, 66, 67, 68, 69] (by decide +kernel) (by decide +kernel)
set_option maxRecDepth 20000 in
theorem gX9_planPhotos_X9_findPlan : GoodIn wsX9_planPhotos (wsV RX9 142 RX9 yX9_findPlan wsX9_findPlan) := goodIn_app (goodIn_of _ (by decide +kernel)) ggX9_planPhotos_X9_findPlan
theorem dX9_planPhotos_0 : decode cX9_planPhotos 0 = .ok (.iload_n 1, 1) := by decide +kernel
theorem dX9_planPhotos_1 : decode cX9_planPhotos 1 = .ok (.invokestatic 113, 3) := by decide +kernel
theorem dX9_planPhotos_4 : decode cX9_planPhotos 4 = .ok (.ifCond .ne 8, 3) := by decide +kernel
theorem dX9_planPhotos_7 : decode cX9_planPhotos 7 = .ok (.bipush (-4), 2) := by decide +kernel
theorem dX9_planPhotos_9 : decode cX9_planPhotos 9 = .ok (.goto 20, 3) := by decide +kernel
theorem dX9_planPhotos_12 : decode cX9_planPhotos 12 = .ok (.aload_n 0, 1) := by decide +kernel
theorem dX9_planPhotos_13 : decode cX9_planPhotos 13 = .ok (.iload_n 1, 1) := by decide +kernel
theorem dX9_planPhotos_14 : decode cX9_planPhotos 14 = .ok (.invokevirtual 142, 3) := by decide +kernel
theorem dX9_planPhotos_17 : decode cX9_planPhotos 17 = .ok (.ifCond .eq 10, 3) := by decide +kernel
theorem dX9_planPhotos_20 : decode cX9_planPhotos 20 = .ok (.aload_n 0, 1) := by decide +kernel
theorem dX9_planPhotos_21 : decode cX9_planPhotos 21 = .ok (.getfield 130, 3) := by decide +kernel
theorem dX9_planPhotos_24 : decode cX9_planPhotos 24 = .ok (.goto 5, 3) := by decide +kernel
theorem dX9_planPhotos_27 : decode cX9_planPhotos 27 = .ok (.bipush (-6), 2) := by decide +kernel
theorem dX9_planPhotos_29 : decode cX9_planPhotos 29 = .ok (.ireturn, 1) := by decide +kernel
set_option maxRecDepth 20000 in
theorem ggX9_planRowSpacing_X9_isRequired : GoodIn wsX9_planRowSpacing wsX9_isRequired := goodIn_r _ [5, 6, 7, 4, 8] (by decide +kernel) (by decide +kernel)
set_option maxRecDepth 20000 in
theorem gX9_planRowSpacing_X9_isRequired : GoodIn wsX9_planRowSpacing (va_wsS RX9 113 yX9_isRequired wsX9_isRequired) := goodIn_app (goodIn_of _ (by decide +kernel)) ggX9_planRowSpacing_X9_isRequired
set_option maxRecDepth 20000 in
theorem ggX9_planRowSpacing_X9_findPlan : GoodIn wsX9_planRowSpacing wsX9_findPlan := goodIn_r _ [12, 13, 14, 15, 16, 1, 17, 18, 19, 20, 4, 21, 22, 23, 24, 25, 26, 27, 28, 29, 30, 31, 32, 33, 34, 35, 36, 37, 38, 39, 40, 41, 42, 43, 44, 45, 46, 47, 48, 49, 50, 51, 52, 53, 54, 55, 56, 57, 58, 59, 60, 61, 62, 63, 64, 65, 66, 67, 68, 69] (by decide +kernel) (by decide +kernel)
set_option maxRecDepth 20000 in
theorem gX9_planRowSpacing_X9_findPlan : GoodIn wsX9_planRowSpacing (wsV RX9 142 RX9 yX9_findPlan wsX9_findPlan) := goodIn_app (goodIn_of _ (by decide +kernel)) ggX9_planRowSpacing_X9_findPlan
theorem dX9_planRowSpacing_0 : decode cX9_planRowSpacing 0 = .ok (.iload_n 1, 1) := by decide +kernel
theorem dX9_planRowSpacing_1 : decode cX9_planRowSpacing 1 = .ok (.invokestatic 113, 3) := by decide +kernel
theorem dX9_planRowSpacing_4 : decode cX9_planRowSpacing 4 = .ok (.ifCond .ne 8, 3) := by decide +kernel
theorem dX9_planRowSpacing_7 : decode cX9_planRowSpacing 7 = .ok (.bipush (-4), 2) := by decide +kernel
theorem dX9_planRowSpacing_9 : decode cX9_planRowSpacing 9 = .ok (.goto 20, 3) := by decide +kernel
theorem dX9_planRowSpacing_12 : decode cX9_planRowSpacing 12 = .ok (.aload_n 0, 1) := by decide +kernel
theorem dX9_planRowSpacing_13 : decode cX9_planRowSpacing 13 = .ok (.iload_n 1, 1) := by decide +kernel
theorem dX9_planRowSpacing_14 : decode cX9_planRowSpacing 14 = .ok (.invokevirtual 142, 3) := by decide +kernel
theorem dX9_planRowSpacing_17 : decode cX9_planRowSpacing 17 = .ok (.ifCond .eq 10, 3) := by decide +kernel
theorem dX9_planRowSpacing_20 : decode cX9_planRowSpacing 20 = .ok (.aload_n 0, 1) := by decide +kernel
theorem dX9_planRowSpacing_21 : decode cX9_planRowSpacing 21 = .ok (.getfield 136, 3) := by decide +kernel
theorem dX9_planRowSpacing_24 : decode cX9_planRowSpacing 24 = .ok (.goto 5, 3) := by decide +kernel
theorem dX9_planRowSpacing_27 : decode cX9_planRowSpacing 27 = .ok (.bipush (-6), 2) := by decide +kernel
theorem dX9_planRowSpacing_29 : decode cX9_planRowSpacing 29 = .ok (.ireturn, 1) := by decide +kernel
set_option maxRecDepth 20000 in
theorem ggX9_planPhotoSpacing_X9_isRequired : GoodIn wsX9_planPhotoSpacing wsX9_isRequired := goodIn_r _ [5, 6, 7, 4, 8] (by decide +kernel) (by decide +kernel)
set_option maxRecDepth 20000 in
theorem gX9_planPhotoSpacing_X9_isRequired : GoodIn wsX9_planPhotoSpacing (va_wsS RX9 113 yX9_isRequired wsX9_isRequired) := goodIn_app (goodIn_of _ (by decide +kernel)) ggX9_planPhotoSpacing_X9_isRequired
set_option maxRecDepth 20000 in
theorem ggX9_planPhotoSpacing_X9_findPlan : GoodIn wsX9_planPhotoSpacing wsX9_findPlan := goodIn_r _ [12, 13, 14, 15, 16, 17, 1, 18, 19, 20, 4, 21, 22, 23, 24, 25, 26, 27, 28, 29, 30, 31, 32, 33, 34, 35, 36, 37, 38, 39, 40, 41, 42, 43, 44, 45, 46, 47, 48, 49, 50, 51, 52, 53, 54, 55, 56, 57, 58, 59, 60, 61, 62, 63, 64, 65, 66, 67, 68, 69] (by decide +kernel) (by decide +kernel)
set_option maxRecDepth 20000 in
theorem gX9_planPhotoSpacing_X9_findPlan : GoodIn wsX9_planPhotoSpacing (wsV RX9 142 RX9 yX9_findPlan wsX9_findPlan) := goodIn_app (goodIn_of _ (by decide +kernel)) ggX9_planPhotoSpacing_X9_findPlan
theorem dX9_planPhotoSpacing_0 : decode cX9_planPhotoSpacing 0 = .ok (.iload_n 1, 1) := by decide +kernel
theorem dX9_planPhotoSpacing_1 : decode cX9_planPhotoSpacing 1 = .ok (.invokestatic 113, 3) := by decide +kernel
theorem dX9_planPhotoSpacing_4 : decode cX9_planPhotoSpacing 4 = .ok (.ifCond .ne 8, 3) := by decide +kernel
theorem dX9_planPhotoSpacing_7 : decode cX9_planPhotoSpacing 7 = .ok (.bipush (-4), 2) := by decide +kernel
theorem dX9_planPhotoSpacing_9 : decode cX9_planPhotoSpacing 9 = .ok (.goto 20, 3) := by decide +kernel
theorem dX9_planPhotoSpacing_12 : decode cX9_planPhotoSpacing 12 = .ok (.aload_n 0, 1) := by decide +kernel
theorem dX9_planPhotoSpacing_13 : decode cX9_planPhotoSpacing 13 = .ok (.iload_n 1, 1) := by decide +kernel
theorem dX9_planPhotoSpacing_14 : decode cX9_planPhotoSpacing 14 = .ok (.invokevirtual 142, 3) := by decide +kernel
theorem dX9_planPhotoSpacing_17 : decode cX9_planPhotoSpacing 17 = .ok (.ifCond .eq 10, 3) := by decide +kernel
theorem dX9_planPhotoSpacing_20 : decode cX9_planPhotoSpacing 20 = .ok (.aload_n 0, 1) := by decide +kernel
theorem dX9_planPhotoSpacing_21 : decode cX9_planPhotoSpacing 21 = .ok (.getfield 139, 3) := by decide +kernel
theorem dX9_planPhotoSpacing_24 : decode cX9_planPhotoSpacing 24 = .ok (.goto 5, 3) := by decide +kernel
theorem dX9_planPhotoSpacing_27 : decode cX9_planPhotoSpacing 27 = .ok (.bipush (-6), 2) := by decide +kernel
theorem dX9_planPhotoSpacing_29 : decode cX9_planPhotoSpacing 29 = .ok (.ireturn, 1) := by decide +kernel
set_option maxRecDepth 20000 in
theorem ggX9_applyPlan_X9_isRequired : GoodIn wsX9_applyPlan wsX9_isRequired := goodIn_r _ [9, 10, 11, 8, 12] (by decide +kernel) (by decide +kernel)
set_option maxRecDepth 20000 in
theorem gX9_applyPlan_X9_isRequired : GoodIn wsX9_applyPlan (va_wsS RX9 113 yX9_isRequired wsX9_isRequired) := goodIn_app (goodIn_of _ (by decide +kernel)) ggX9_applyPlan_X9_isRequired
set_option maxRecDepth 20000 in
theorem ggX9_applyPlan_X9_findPlan : GoodIn wsX9_applyPlan wsX9_findPlan := goodIn_r _ [16, 17, 18, 3, 4, 2, 5, 19, 20, 21, 8, 22, 23, 24, 25, 26, 27, 28, 29, 30, 31, 32, 33, 34, 35, 36, 37, 38, 39, 40, 41, 42, 43, 44, 45, 46, 47, 48, 49, 50, 59, 60, 61, 62, 63, 64, 65, 66, 67, 68, 69, 70, 71, 72, 73, 74, 75, 76, 77, 78] (by decide +kernel) (by decide +kernel)
set_option maxRecDepth 20000 in
theorem gX9_applyPlan_X9_findPlan : GoodIn wsX9_applyPlan (wsV RX9 142 RX9 yX9_findPlan wsX9_findPlan) := goodIn_app (goodIn_of _ (by decide +kernel)) ggX9_applyPlan_X9_findPlan
set_option maxRecDepth 20000 in
theorem ggX9_applyPlan_X9_put : GoodIn wsX9_applyPlan wsX9_put := goodIn_r _ [54, 55, 1, 56, 57, 58, 59, 60, 61, 62, 63, 64, 65, 66, 67, 68, 69, 70, 71, 72, 73, 74, 75, 76, 77, 78] (by decide +kernel) (by decide +kernel)
set_option maxRecDepth 20000 in
theorem gX9_applyPlan_X9_put : GoodIn wsX9_applyPlan (wsV RX9 75 RX9 yX9_put wsX9_put) := goodIn_app (goodIn_of _ (by decide +kernel)) ggX9_applyPlan_X9_put
theorem dX9_applyPlan_0 : decode cX9_applyPlan 0 = .ok (.iload_n 1, 1) := by decide +kernel
theorem dX9_applyPlan_1 : decode cX9_applyPlan 1 = .ok (.invokestatic 113, 3) := by decide +kernel
theorem dX9_applyPlan_4 : decode cX9_applyPlan 4 = .ok (.ifCond .ne 6, 3) := by decide +kernel
theorem dX9_applyPlan_7 : decode cX9_applyPlan 7 = .ok (.bipush (-4), 2) := by decide +kernel
theorem dX9_applyPlan_9 : decode cX9_applyPlan 9 = .ok (.ireturn, 1) := by decide +kernel
theorem dX9_applyPlan_10 : decode cX9_applyPlan 10 = .ok (.aload_n 0, 1) := by decide +kernel
theorem dX9_applyPlan_11 : decode cX9_applyPlan 11 = .ok (.iload_n 1, 1) := by decide +kernel
theorem dX9_applyPlan_12 : decode cX9_applyPlan 12 = .ok (.invokevirtual 142, 3) := by decide +kernel
theorem dX9_applyPlan_15 : decode cX9_applyPlan 15 = .ok (.ifCond .ne 6, 3) := by decide +kernel
theorem dX9_applyPlan_18 : decode cX9_applyPlan 18 = .ok (.bipush (-6), 2) := by decide +kernel
theorem dX9_applyPlan_20 : decode cX9_applyPlan 20 = .ok (.ireturn, 1) := by decide +kernel
theorem dX9_applyPlan_21 : decode cX9_applyPlan 21 = .ok (.aload_n 0, 1) := by decide +kernel
theorem dX9_applyPlan_22 : decode cX9_applyPlan 22 = .ok (.iconst 0, 1) := by decide +kernel
theorem dX9_applyPlan_23 : decode cX9_applyPlan 23 = .ok (.putfield 58, 3) := by decide +kernel
theorem dX9_applyPlan_26 : decode cX9_applyPlan 26 = .ok (.aload_n 0, 1) := by decide +kernel
theorem dX9_applyPlan_27 : decode cX9_applyPlan 27 = .ok (.getfield 136, 3) := by decide +kernel
theorem dX9_applyPlan_30 : decode cX9_applyPlan 30 = .ok (.iconst 2, 1) := by decide +kernel
theorem dX9_applyPlan_31 : decode cX9_applyPlan 31 = .ok (.idiv, 1) := by decide +kernel
theorem dX9_applyPlan_32 : decode cX9_applyPlan 32 = .ok (.istore_n 2, 1) := by decide +kernel
theorem dX9_applyPlan_33 : decode cX9_applyPlan 33 = .ok (.iload_n 2, 1) := by decide +kernel
theorem dX9_applyPlan_34 : decode cX9_applyPlan 34 = .ok (.aload_n 0, 1) := by decide +kernel
theorem dX9_applyPlan_35 : decode cX9_applyPlan 35 = .ok (.getfield 48, 3) := by decide +kernel
theorem dX9_applyPlan_38 : decode cX9_applyPlan 38 = .ok (.if_icmp .ge 29, 3) := by decide +kernel
theorem dX9_applyPlan_41 : decode cX9_applyPlan 41 = .ok (.aload_n 0, 1) := by decide +kernel
theorem dX9_applyPlan_42 : decode cX9_applyPlan 42 = .ok (.iload_n 2, 1) := by decide +kernel
theorem dX9_applyPlan_43 : decode cX9_applyPlan 43 = .ok (.iconst 0, 1) := by decide +kernel
theorem dX9_applyPlan_44 : decode cX9_applyPlan 44 = .ok (.aload_n 0, 1) := by decide +kernel
theorem dX9_applyPlan_45 : decode cX9_applyPlan 45 = .ok (.getfield 51, 3) := by decide +kernel
theorem dX9_applyPlan_48 : decode cX9_applyPlan 48 = .ok (.iconst 1, 1) := by decide +kernel
theorem dX9_applyPlan_49 : decode cX9_applyPlan 49 = .ok (.isub, 1) := by decide +kernel
theorem dX9_applyPlan_50 : decode cX9_applyPlan 50 = .ok (.aload_n 0, 1) := by decide +kernel
theorem dX9_applyPlan_51 : decode cX9_applyPlan 51 = .ok (.getfield 139, 3) := by decide +kernel
theorem dX9_applyPlan_54 : decode cX9_applyPlan 54 = .ok (.invokevirtual 75, 3) := by decide +kernel
theorem dX9_applyPlan_57 : decode cX9_applyPlan 57 = .ok (.iload_n 2, 1) := by decide +kernel
theorem dX9_applyPlan_58 : decode cX9_applyPlan 58 = .ok (.aload_n 0, 1) := by decide +kernel
theorem dX9_applyPlan_59 : decode cX9_applyPlan 59 = .ok (.getfield 136, 3) := by decide +kernel
theorem dX9_applyPlan_62 : decode cX9_applyPlan 62 = .ok (.iadd, 1) := by decide +kernel
theorem dX9_applyPlan_63 : decode cX9_applyPlan 63 = .ok (.istore_n 2, 1) := by decide +kernel
theorem dX9_applyPlan_64 : decode cX9_applyPlan 64 = .ok (.goto (-31), 3) := by decide +kernel
theorem dX9_applyPlan_67 : decode cX9_applyPlan 67 = .ok (.aload_n 0, 1) := by decide +kernel
theorem dX9_applyPlan_68 : decode cX9_applyPlan 68 = .ok (.getfield 58, 3) := by decide +kernel
theorem dX9_applyPlan_71 : decode cX9_applyPlan 71 = .ok (.ireturn, 1) := by decide +kernel
theorem dX9_legTime_0 : decode cX9_legTime 0 = .ok (.iload_n 1, 1) := by decide +kernel
theorem dX9_legTime_1 : decode cX9_legTime 1 = .ok (.iconst 2, 1) := by decide +kernel
theorem dX9_legTime_2 : decode cX9_legTime 2 = .ok (.irem, 1) := by decide +kernel
theorem dX9_legTime_3 : decode cX9_legTime 3 = .ok (.ifCond .ne 15, 3) := by decide +kernel
theorem dX9_legTime_6 : decode cX9_legTime 6 = .ok (.aload_n 0, 1) := by decide +kernel
theorem dX9_legTime_7 : decode cX9_legTime 7 = .ok (.getfield 19, 3) := by decide +kernel
theorem dX9_legTime_10 : decode cX9_legTime 10 = .ok (.aload_n 0, 1) := by decide +kernel
theorem dX9_legTime_11 : decode cX9_legTime 11 = .ok (.getfield 72, 3) := by decide +kernel
theorem dX9_legTime_14 : decode cX9_legTime 14 = .ok (.iadd, 1) := by decide +kernel
theorem dX9_legTime_15 : decode cX9_legTime 15 = .ok (.goto 12, 3) := by decide +kernel
theorem dX9_legTime_18 : decode cX9_legTime 18 = .ok (.aload_n 0, 1) := by decide +kernel
theorem dX9_legTime_19 : decode cX9_legTime 19 = .ok (.getfield 19, 3) := by decide +kernel
theorem dX9_legTime_22 : decode cX9_legTime 22 = .ok (.aload_n 0, 1) := by decide +kernel
theorem dX9_legTime_23 : decode cX9_legTime 23 = .ok (.getfield 72, 3) := by decide +kernel
theorem dX9_legTime_26 : decode cX9_legTime 26 = .ok (.isub, 1) := by decide +kernel
theorem dX9_legTime_27 : decode cX9_legTime 27 = .ok (.istore_n 2, 1) := by decide +kernel
theorem dX9_legTime_28 : decode cX9_legTime 28 = .ok (.aload_n 0, 1) := by decide +kernel
theorem dX9_legTime_29 : decode cX9_legTime 29 = .ok (.getfield 35, 3) := by decide +kernel
theorem dX9_legTime_32 : decode cX9_legTime 32 = .ok (.iload_n 1, 1) := by decide +kernel
theorem dX9_legTime_33 : decode cX9_legTime 33 = .ok (.iconst 2, 1) := by decide +kernel
theorem dX9_legTime_34 : decode cX9_legTime 34 = .ok (.idiv, 1) := by decide +kernel
theorem dX9_legTime_35 : decode cX9_legTime 35 = .ok (.iaload, 1) := by decide +kernel
theorem dX9_legTime_36 : decode cX9_legTime 36 = .ok (.aload_n 0, 1) := by decide +kernel
theorem dX9_legTime_37 : decode cX9_legTime 37 = .ok (.getfield 32, 3) := by decide +kernel
theorem dX9_legTime_40 : decode cX9_legTime 40 = .ok (.iload_n 1, 1) := by decide +kernel
theorem dX9_legTime_41 : decode cX9_legTime 41 = .ok (.iconst 2, 1) := by decide +kernel
theorem dX9_legTime_42 : decode cX9_legTime 42 = .ok (.idiv, 1) := by decide +kernel
theorem dX9_legTime_43 : decode cX9_legTime 43 = .ok (.iaload, 1) := by decide +kernel
theorem dX9_legTime_44 : decode cX9_legTime 44 = .ok (.isub, 1) := by decide +kernel
theorem dX9_legTime_45 : decode cX9_legTime 45 = .ok (.sipush 1000, 3) := by decide +kernel
theorem dX9_legTime_48 : decode cX9_legTime 48 = .ok (.imul, 1) := by decide +kernel
theorem dX9_legTime_49 : decode cX9_legTime 49 = .ok (.iload_n 2, 1) := by decide +kernel
theorem dX9_legTime_50 : decode cX9_legTime 50 = .ok (.idiv, 1) := by decide +kernel
theorem dX9_legTime_51 : decode cX9_legTime 51 = .ok (.ireturn, 1) := by decide +kernel
set_option maxRecDepth 20000 in
theorem ggX9_stripTime_X9_isStrip : GoodIn wsX9_stripTime wsX9_isStrip := goodIn_r _ [5, 6, 7, 8, 4, 9, 18, 19, 20, 21, 22, 23, 24, 25, 26, 27, 28, 29, 30, 31, 32, 33, 34, 35, 36, 37] (by decide +kernel) (by decide +kernel)
set_option maxRecDepth 20000 in
theorem gX9_stripTime_X9_isStrip : GoodIn wsX9_stripTime (wsV RX9 79 RX9 yX9_isStrip wsX9_isStrip) := goodIn_app (goodIn_of _ (by decide +kernel)) ggX9_stripTime_X9_isStrip
set_option maxRecDepth 20000 in
theorem ggX9_stripTime_X9_legTime : GoodIn wsX9_stripTime wsX9_legTime := goodIn_r _ [13, 14, 15, 16, 17, 18, 19, 20, 21, 22, 23, 24, 25, 26, 27, 28, 29, 30, 31, 32, 33, 34, 35, 36, 37] (by decide +kernel) (by decide +kernel)
set_option maxRecDepth 20000 in
theorem gX9_stripTime_X9_legTime : GoodIn wsX9_stripTime (wsV RX9 145 RX9 yX9_legTime wsX9_legTime) := goodIn_app (goodIn_of _ (by decide +kernel)) ggX9_stripTime_X9_legTime
theorem dX9_stripTime_0 : decode cX9_stripTime 0 = .ok (.aload_n 0, 1) := by decide +kernel
theorem dX9_stripTime_1 : decode cX9_stripTime 1 = .ok (.iload_n 1, 1) := by decide +kernel
theorem dX9_stripTime_2 : decode cX9_stripTime 2 = .ok (.invokevirtual 79, 3) := by decide +kernel
theorem dX9_stripTime_5 : decode cX9_stripTime 5 = .ok (.ifCond .eq 23, 3) := by decide +kernel
theorem dX9_stripTime_8 : decode cX9_stripTime 8 = .ok (.aload_n 0, 1) := by decide +kernel
theorem dX9_stripTime_9 : decode cX9_stripTime 9 = .ok (.iconst 2, 1) := by decide +kernel
theorem dX9_stripTime_10 : decode cX9_stripTime 10 = .ok (.iload_n 1, 1) := by decide +kernel
theorem dX9_stripTime_11 : decode cX9_stripTime 11 = .ok (.imul, 1) := by decide +kernel
theorem dX9_stripTime_12 : decode cX9_stripTime 12 = .ok (.iload_n 2, 1) := by decide +kernel
theorem dX9_stripTime_13 : decode cX9_stripTime 13 = .ok (.ifCond .eq 7, 3) := by decide +kernel
theorem dX9_stripTime_16 : decode cX9_stripTime 16 = .ok (.iconst 0, 1) := by decide +kernel
theorem dX9_stripTime_17 : decode cX9_stripTime 17 = .ok (.goto 4, 3) := by decide +kernel
theorem dX9_stripTime_20 : decode cX9_stripTime 20 = .ok (.iconst 1, 1) := by decide +kernel
theorem dX9_stripTime_21 : decode cX9_stripTime 21 = .ok (.iadd, 1) := by decide +kernel
theorem dX9_stripTime_22 : decode cX9_stripTime 22 = .ok (.invokevirtual 145, 3) := by decide +kernel
theorem dX9_stripTime_25 : decode cX9_stripTime 25 = .ok (.goto 5, 3) := by decide +kernel
theorem dX9_stripTime_28 : decode cX9_stripTime 28 = .ok (.bipush (-2), 2) := by decide +kernel
theorem dX9_stripTime_30 : decode cX9_stripTime 30 = .ok (.ireturn, 1) := by decide +kernel
theorem dX9_entryColumn_0 : decode cX9_entryColumn 0 = .ok (.iload_n 1, 1) := by decide +kernel
theorem dX9_entryColumn_1 : decode cX9_entryColumn 1 = .ok (.iconst 2, 1) := by decide +kernel
theorem dX9_entryColumn_2 : decode cX9_entryColumn 2 = .ok (.irem, 1) := by decide +kernel
theorem dX9_entryColumn_3 : decode cX9_entryColumn 3 = .ok (.ifCond .ne 14, 3) := by decide +kernel
theorem dX9_entryColumn_6 : decode cX9_entryColumn 6 = .ok (.aload_n 0, 1) := by decide +kernel
theorem dX9_entryColumn_7 : decode cX9_entryColumn 7 = .ok (.getfield 32, 3) := by decide +kernel
theorem dX9_entryColumn_10 : decode cX9_entryColumn 10 = .ok (.iload_n 1, 1) := by decide +kernel
theorem dX9_entryColumn_11 : decode cX9_entryColumn 11 = .ok (.iconst 2, 1) := by decide +kernel
theorem dX9_entryColumn_12 : decode cX9_entryColumn 12 = .ok (.idiv, 1) := by decide +kernel
theorem dX9_entryColumn_13 : decode cX9_entryColumn 13 = .ok (.iaload, 1) := by decide +kernel
theorem dX9_entryColumn_14 : decode cX9_entryColumn 14 = .ok (.goto 11, 3) := by decide +kernel
theorem dX9_entryColumn_17 : decode cX9_entryColumn 17 = .ok (.aload_n 0, 1) := by decide +kernel
theorem dX9_entryColumn_18 : decode cX9_entryColumn 18 = .ok (.getfield 35, 3) := by decide +kernel
theorem dX9_entryColumn_21 : decode cX9_entryColumn 21 = .ok (.iload_n 1, 1) := by decide +kernel
theorem dX9_entryColumn_22 : decode cX9_entryColumn 22 = .ok (.iconst 2, 1) := by decide +kernel
theorem dX9_entryColumn_23 : decode cX9_entryColumn 23 = .ok (.idiv, 1) := by decide +kernel
theorem dX9_entryColumn_24 : decode cX9_entryColumn 24 = .ok (.iaload, 1) := by decide +kernel
theorem dX9_entryColumn_25 : decode cX9_entryColumn 25 = .ok (.ireturn, 1) := by decide +kernel
theorem dX9_exitColumn_0 : decode cX9_exitColumn 0 = .ok (.iload_n 1, 1) := by decide +kernel
theorem dX9_exitColumn_1 : decode cX9_exitColumn 1 = .ok (.iconst 2, 1) := by decide +kernel
theorem dX9_exitColumn_2 : decode cX9_exitColumn 2 = .ok (.irem, 1) := by decide +kernel
theorem dX9_exitColumn_3 : decode cX9_exitColumn 3 = .ok (.ifCond .ne 14, 3) := by decide +kernel
theorem dX9_exitColumn_6 : decode cX9_exitColumn 6 = .ok (.aload_n 0, 1) := by decide +kernel
theorem dX9_exitColumn_7 : decode cX9_exitColumn 7 = .ok (.getfield 35, 3) := by decide +kernel
theorem dX9_exitColumn_10 : decode cX9_exitColumn 10 = .ok (.iload_n 1, 1) := by decide +kernel
theorem dX9_exitColumn_11 : decode cX9_exitColumn 11 = .ok (.iconst 2, 1) := by decide +kernel
theorem dX9_exitColumn_12 : decode cX9_exitColumn 12 = .ok (.idiv, 1) := by decide +kernel
theorem dX9_exitColumn_13 : decode cX9_exitColumn 13 = .ok (.iaload, 1) := by decide +kernel
theorem dX9_exitColumn_14 : decode cX9_exitColumn 14 = .ok (.goto 11, 3) := by decide +kernel
theorem dX9_exitColumn_17 : decode cX9_exitColumn 17 = .ok (.aload_n 0, 1) := by decide +kernel
theorem dX9_exitColumn_18 : decode cX9_exitColumn 18 = .ok (.getfield 32, 3) := by decide +kernel
theorem dX9_exitColumn_21 : decode cX9_exitColumn 21 = .ok (.iload_n 1, 1) := by decide +kernel
theorem dX9_exitColumn_22 : decode cX9_exitColumn 22 = .ok (.iconst 2, 1) := by decide +kernel
theorem dX9_exitColumn_23 : decode cX9_exitColumn 23 = .ok (.idiv, 1) := by decide +kernel
theorem dX9_exitColumn_24 : decode cX9_exitColumn 24 = .ok (.iaload, 1) := by decide +kernel
theorem dX9_exitColumn_25 : decode cX9_exitColumn 25 = .ok (.ireturn, 1) := by decide +kernel
set_option maxRecDepth 20000 in
theorem ggX9_timeBy_X9_size : GoodIn wsX9_timeBy wsX9_size := goodIn_r _ [7] (by decide +kernel) (by decide +kernel)
set_option maxRecDepth 20000 in
theorem gX9_timeBy_X9_size : GoodIn wsX9_timeBy (va_wsS RX9 65 yX9_size wsX9_size) := goodIn_app (goodIn_of _ (by decide +kernel)) ggX9_timeBy_X9_size
set_option maxRecDepth 20000 in
theorem ggX9_timeBy_X9_entryColumn : GoodIn wsX9_timeBy wsX9_entryColumn := goodIn_r _ [11, 12, 13, 19, 20, 21, 22, 23, 24, 25, 26, 27, 28, 29, 30, 31, 32, 33, 34, 35, 36, 37, 38] (by decide +kernel) (by decide +kernel)
set_option maxRecDepth 20000 in
theorem gX9_timeBy_X9_entryColumn : GoodIn wsX9_timeBy (wsV RX9 148 RX9 yX9_entryColumn wsX9_entryColumn) := goodIn_app (goodIn_of _ (by decide +kernel)) ggX9_timeBy_X9_entryColumn
set_option maxRecDepth 20000 in
theorem ggX9_timeBy_X9_legTime : GoodIn wsX9_timeBy wsX9_legTime := goodIn_r _ [17, 2, 18, 13, 12, 19, 20, 21, 22, 23, 24, 25, 26, 27, 28, 29, 30, 31, 32, 33, 34, 35, 36, 37, 38] (by decide +kernel) (by decide +kernel)
set_option maxRecDepth 20000 in
theorem gX9_timeBy_X9_legTime : GoodIn wsX9_timeBy (wsV RX9 145 RX9 yX9_legTime wsX9_legTime) := goodIn_app (goodIn_of _ (by decide +kernel)) ggX9_timeBy_X9_legTime
theorem dX9_timeBy_0 : decode cX9_timeBy 0 = .ok (.iload_n 1, 1) := by decide +kernel
theorem dX9_timeBy_1 : decode cX9_timeBy 1 = .ok (.aload_n 0, 1) := by decide +kernel
theorem dX9_timeBy_2 : decode cX9_timeBy 2 = .ok (.getfield 29, 3) := by decide +kernel
theorem dX9_timeBy_5 : decode cX9_timeBy 5 = .ok (.iload_n 3, 1) := by decide +kernel
theorem dX9_timeBy_6 : decode cX9_timeBy 6 = .ok (.iconst 2, 1) := by decide +kernel
theorem dX9_timeBy_7 : decode cX9_timeBy 7 = .ok (.idiv, 1) := by decide +kernel
theorem dX9_timeBy_8 : decode cX9_timeBy 8 = .ok (.iaload, 1) := by decide +kernel
theorem dX9_timeBy_9 : decode cX9_timeBy 9 = .ok (.isub, 1) := by decide +kernel
theorem dX9_timeBy_10 : decode cX9_timeBy 10 = .ok (.invokestatic 65, 3) := by decide +kernel
theorem dX9_timeBy_13 : decode cX9_timeBy 13 = .ok (.iload_n 2, 1) := by decide +kernel
theorem dX9_timeBy_14 : decode cX9_timeBy 14 = .ok (.aload_n 0, 1) := by decide +kernel
theorem dX9_timeBy_15 : decode cX9_timeBy 15 = .ok (.iload_n 3, 1) := by decide +kernel
theorem dX9_timeBy_16 : decode cX9_timeBy 16 = .ok (.invokevirtual 148, 3) := by decide +kernel
theorem dX9_timeBy_19 : decode cX9_timeBy 19 = .ok (.isub, 1) := by decide +kernel
theorem dX9_timeBy_20 : decode cX9_timeBy 20 = .ok (.invokestatic 65, 3) := by decide +kernel
theorem dX9_timeBy_23 : decode cX9_timeBy 23 = .ok (.iadd, 1) := by decide +kernel
theorem dX9_timeBy_24 : decode cX9_timeBy 24 = .ok (.istore 4, 2) := by decide +kernel
theorem dX9_timeBy_26 : decode cX9_timeBy 26 = .ok (.iload 4, 2) := by decide +kernel
theorem dX9_timeBy_28 : decode cX9_timeBy 28 = .ok (.sipush 1000, 3) := by decide +kernel
theorem dX9_timeBy_31 : decode cX9_timeBy 31 = .ok (.imul, 1) := by decide +kernel
theorem dX9_timeBy_32 : decode cX9_timeBy 32 = .ok (.aload_n 0, 1) := by decide +kernel
theorem dX9_timeBy_33 : decode cX9_timeBy 33 = .ok (.getfield 19, 3) := by decide +kernel
theorem dX9_timeBy_36 : decode cX9_timeBy 36 = .ok (.idiv, 1) := by decide +kernel
theorem dX9_timeBy_37 : decode cX9_timeBy 37 = .ok (.aload_n 0, 1) := by decide +kernel
theorem dX9_timeBy_38 : decode cX9_timeBy 38 = .ok (.getfield 22, 3) := by decide +kernel
theorem dX9_timeBy_41 : decode cX9_timeBy 41 = .ok (.iadd, 1) := by decide +kernel
theorem dX9_timeBy_42 : decode cX9_timeBy 42 = .ok (.aload_n 0, 1) := by decide +kernel
theorem dX9_timeBy_43 : decode cX9_timeBy 43 = .ok (.iload_n 3, 1) := by decide +kernel
theorem dX9_timeBy_44 : decode cX9_timeBy 44 = .ok (.invokevirtual 145, 3) := by decide +kernel
theorem dX9_timeBy_47 : decode cX9_timeBy 47 = .ok (.iadd, 1) := by decide +kernel
theorem dX9_timeBy_48 : decode cX9_timeBy 48 = .ok (.ireturn, 1) := by decide +kernel
set_option maxRecDepth 20000 in
theorem ggX9_findRests_X9_exitColumn : GoodIn wsX9_findRests wsX9_exitColumn := goodIn_r _ [8, 9, 10, 38, 39, 40, 41, 42, 43, 44, 45, 46, 47, 48, 49, 50, 51, 52, 53, 54, 55, 56, 57] (by decide +kernel) (by decide +kernel)
set_option maxRecDepth 20000 in
theorem gX9_findRests_X9_exitColumn : GoodIn wsX9_findRests (wsV RX9 151 RX9 yX9_exitColumn wsX9_exitColumn) := goodIn_app (goodIn_of _ (by decide +kernel)) ggX9_findRests_X9_exitColumn
set_option maxRecDepth 20000 in
theorem ggX9_findRests_X9_leastFrom : GoodIn wsX9_findRests wsX9_leastFrom := goodIn_r _ [14, 15, 1, 16, 17, 18, 7, 19, 2, 20, 21, 22, 23, 3, 24, 25, 26, 27, 28, 29, 30, 31, 32, 10, 9, 33, 34, 35, 36, 37, 38, 39, 40, 41, 42, 43, 44, 45, 46, 47, 48, 49, 50, 51, 52, 53, 54, 55, 56, 57] (by decide +kernel) (by decide +kernel)
set_option maxRecDepth 20000 in
theorem gX9_findRests_X9_leastFrom : GoodIn wsX9_findRests (wsV RX9 154 RX9 yX9_leastFrom wsX9_leastFrom) := goodIn_app (goodIn_of _ (by decide +kernel)) ggX9_findRests_X9_leastFrom
theorem dX9_findRests_0 : decode cX9_findRests 0 = .ok (.iconst 0, 1) := by decide +kernel
theorem dX9_findRests_1 : decode cX9_findRests 1 = .ok (.istore_n 1, 1) := by decide +kernel
theorem dX9_findRests_2 : decode cX9_findRests 2 = .ok (.iload_n 1, 1) := by decide +kernel
theorem dX9_findRests_3 : decode cX9_findRests 3 = .ok (.iconst 1, 1) := by decide +kernel
theorem dX9_findRests_4 : decode cX9_findRests 4 = .ok (.aload_n 0, 1) := by decide +kernel
theorem dX9_findRests_5 : decode cX9_findRests 5 = .ok (.getfield 58, 3) := by decide +kernel
theorem dX9_findRests_8 : decode cX9_findRests 8 = .ok (.ishl, 1) := by decide +kernel
theorem dX9_findRests_9 : decode cX9_findRests 9 = .ok (.if_icmp .ge 64, 3) := by decide +kernel
theorem dX9_findRests_12 : decode cX9_findRests 12 = .ok (.iconst 0, 1) := by decide +kernel
theorem dX9_findRests_13 : decode cX9_findRests 13 = .ok (.istore_n 2, 1) := by decide +kernel
theorem dX9_findRests_14 : decode cX9_findRests 14 = .ok (.iload_n 2, 1) := by decide +kernel
theorem dX9_findRests_15 : decode cX9_findRests 15 = .ok (.iconst 2, 1) := by decide +kernel
theorem dX9_findRests_16 : decode cX9_findRests 16 = .ok (.aload_n 0, 1) := by decide +kernel
theorem dX9_findRests_17 : decode cX9_findRests 17 = .ok (.getfield 58, 3) := by decide +kernel
theorem dX9_findRests_20 : decode cX9_findRests 20 = .ok (.imul, 1) := by decide +kernel
theorem dX9_findRests_21 : decode cX9_findRests 21 = .ok (.if_icmp .ge 46, 3) := by decide +kernel
theorem dX9_findRests_24 : decode cX9_findRests 24 = .ok (.aload_n 0, 1) := by decide +kernel
theorem dX9_findRests_25 : decode cX9_findRests 25 = .ok (.getfield 45, 3) := by decide +kernel
theorem dX9_findRests_28 : decode cX9_findRests 28 = .ok (.bipush 16, 2) := by decide +kernel
theorem dX9_findRests_30 : decode cX9_findRests 30 = .ok (.iload_n 1, 1) := by decide +kernel
theorem dX9_findRests_31 : decode cX9_findRests 31 = .ok (.imul, 1) := by decide +kernel
theorem dX9_findRests_32 : decode cX9_findRests 32 = .ok (.iload_n 2, 1) := by decide +kernel
theorem dX9_findRests_33 : decode cX9_findRests 33 = .ok (.iadd, 1) := by decide +kernel
theorem dX9_findRests_34 : decode cX9_findRests 34 = .ok (.iload_n 1, 1) := by decide +kernel
theorem dX9_findRests_35 : decode cX9_findRests 35 = .ok (.ifCond .ne 7, 3) := by decide +kernel
theorem dX9_findRests_38 : decode cX9_findRests 38 = .ok (.iconst 0, 1) := by decide +kernel
theorem dX9_findRests_39 : decode cX9_findRests 39 = .ok (.goto 21, 3) := by decide +kernel
theorem dX9_findRests_42 : decode cX9_findRests 42 = .ok (.aload_n 0, 1) := by decide +kernel
theorem dX9_findRests_43 : decode cX9_findRests 43 = .ok (.aload_n 0, 1) := by decide +kernel
theorem dX9_findRests_44 : decode cX9_findRests 44 = .ok (.getfield 29, 3) := by decide +kernel
theorem dX9_findRests_47 : decode cX9_findRests 47 = .ok (.iload_n 2, 1) := by decide +kernel
theorem dX9_findRests_48 : decode cX9_findRests 48 = .ok (.iconst 2, 1) := by decide +kernel
theorem dX9_findRests_49 : decode cX9_findRests 49 = .ok (.idiv, 1) := by decide +kernel
theorem dX9_findRests_50 : decode cX9_findRests 50 = .ok (.iaload, 1) := by decide +kernel
theorem dX9_findRests_51 : decode cX9_findRests 51 = .ok (.aload_n 0, 1) := by decide +kernel
theorem dX9_findRests_52 : decode cX9_findRests 52 = .ok (.iload_n 2, 1) := by decide +kernel
theorem dX9_findRests_53 : decode cX9_findRests 53 = .ok (.invokevirtual 151, 3) := by decide +kernel
theorem dX9_findRests_56 : decode cX9_findRests 56 = .ok (.iload_n 1, 1) := by decide +kernel
theorem dX9_findRests_57 : decode cX9_findRests 57 = .ok (.invokevirtual 154, 3) := by decide +kernel
theorem dX9_findRests_60 : decode cX9_findRests 60 = .ok (.iastore, 1) := by decide +kernel
theorem dX9_findRests_61 : decode cX9_findRests 61 = .ok (.iinc 2 1, 3) := by decide +kernel
theorem dX9_findRests_64 : decode cX9_findRests 64 = .ok (.goto (-50), 3) := by decide +kernel
theorem dX9_findRests_67 : decode cX9_findRests 67 = .ok (.iinc 1 1, 3) := by decide +kernel
theorem dX9_findRests_70 : decode cX9_findRests 70 = .ok (.goto (-68), 3) := by decide +kernel
theorem dX9_findRests_73 : decode cX9_findRests 73 = .ok (.return_, 1) := by decide +kernel
set_option maxRecDepth 20000 in
theorem ggX9_totalBy_X9_timeBy : GoodIn wsX9_totalBy wsX9_timeBy := goodIn_r _ [6, 7, 8, 9, 10, 11, 5, 12, 13, 14, 15, 16, 17, 18, 19, 20, 21, 22, 23, 24, 25, 26, 27, 28, 29, 30, 31, 32, 33, 34, 35, 36, 37, 38, 39, 40, 41, 42, 43] (by decide +kernel) (by decide +kernel)
set_option maxRecDepth 20000 in
theorem gX9_totalBy_X9_timeBy : GoodIn wsX9_totalBy (wsV RX9 157 RX9 yX9_timeBy wsX9_timeBy) := goodIn_app (goodIn_of _ (by decide +kernel)) ggX9_totalBy_X9_timeBy
theorem dX9_totalBy_0 : decode cX9_totalBy 0 = .ok (.aload_n 0, 1) := by decide +kernel
theorem dX9_totalBy_1 : decode cX9_totalBy 1 = .ok (.iload_n 1, 1) := by decide +kernel
theorem dX9_totalBy_2 : decode cX9_totalBy 2 = .ok (.iload_n 2, 1) := by decide +kernel
theorem dX9_totalBy_3 : decode cX9_totalBy 3 = .ok (.iload 4, 2) := by decide +kernel
theorem dX9_totalBy_5 : decode cX9_totalBy 5 = .ok (.invokevirtual 157, 3) := by decide +kernel
theorem dX9_totalBy_8 : decode cX9_totalBy 8 = .ok (.aload_n 0, 1) := by decide +kernel
theorem dX9_totalBy_9 : decode cX9_totalBy 9 = .ok (.getfield 45, 3) := by decide +kernel
theorem dX9_totalBy_12 : decode cX9_totalBy 12 = .ok (.bipush 16, 2) := by decide +kernel
theorem dX9_totalBy_14 : decode cX9_totalBy 14 = .ok (.iload_n 3, 1) := by decide +kernel
theorem dX9_totalBy_15 : decode cX9_totalBy 15 = .ok (.iconst 1, 1) := by decide +kernel
theorem dX9_totalBy_16 : decode cX9_totalBy 16 = .ok (.iload 4, 2) := by decide +kernel
theorem dX9_totalBy_18 : decode cX9_totalBy 18 = .ok (.iconst 2, 1) := by decide +kernel
theorem dX9_totalBy_19 : decode cX9_totalBy 19 = .ok (.idiv, 1) := by decide +kernel
theorem dX9_totalBy_20 : decode cX9_totalBy 20 = .ok (.ishl, 1) := by decide +kernel
theorem dX9_totalBy_21 : decode cX9_totalBy 21 = .ok (.iconst (-1), 1) := by decide +kernel
theorem dX9_totalBy_22 : decode cX9_totalBy 22 = .ok (.ixor, 1) := by decide +kernel
theorem dX9_totalBy_23 : decode cX9_totalBy 23 = .ok (.iand, 1) := by decide +kernel
theorem dX9_totalBy_24 : decode cX9_totalBy 24 = .ok (.imul, 1) := by decide +kernel
theorem dX9_totalBy_25 : decode cX9_totalBy 25 = .ok (.iload 4, 2) := by decide +kernel
theorem dX9_totalBy_27 : decode cX9_totalBy 27 = .ok (.iadd, 1) := by decide +kernel
theorem dX9_totalBy_28 : decode cX9_totalBy 28 = .ok (.iaload, 1) := by decide +kernel
theorem dX9_totalBy_29 : decode cX9_totalBy 29 = .ok (.iadd, 1) := by decide +kernel
theorem dX9_totalBy_30 : decode cX9_totalBy 30 = .ok (.ireturn, 1) := by decide +kernel
set_option maxRecDepth 20000 in
theorem ggX9_leastFrom_X9_totalBy : GoodIn wsX9_leastFrom wsX9_totalBy := goodIn_r _ [7, 8, 9, 10, 11, 6, 12, 13, 14, 15, 16, 17, 18, 19, 20, 21, 22, 23, 24, 25, 26, 27, 28, 29, 30, 31, 32, 33, 34, 35, 36, 37, 38, 39, 40, 41, 42, 43, 44, 45, 46, 47, 48, 49] (by decide +kernel) (by decide +kernel)
set_option maxRecDepth 20000 in
theorem gX9_leastFrom_X9_totalBy : GoodIn wsX9_leastFrom (wsV RX9 160 RX9 yX9_totalBy wsX9_totalBy) := goodIn_app (goodIn_of _ (by decide +kernel)) ggX9_leastFrom_X9_totalBy
theorem dX9_leastFrom_0 : decode cX9_leastFrom 0 = .ok (.ldc 123, 2) := by decide +kernel
theorem dX9_leastFrom_2 : decode cX9_leastFrom 2 = .ok (.istore 4, 2) := by decide +kernel
theorem dX9_leastFrom_4 : decode cX9_leastFrom 4 = .ok (.iconst 0, 1) := by decide +kernel
theorem dX9_leastFrom_5 : decode cX9_leastFrom 5 = .ok (.istore 5, 2) := by decide +kernel
theorem dX9_leastFrom_7 : decode cX9_leastFrom 7 = .ok (.iload 5, 2) := by decide +kernel
theorem dX9_leastFrom_9 : decode cX9_leastFrom 9 = .ok (.iconst 2, 1) := by decide +kernel
theorem dX9_leastFrom_10 : decode cX9_leastFrom 10 = .ok (.aload_n 0, 1) := by decide +kernel
theorem dX9_leastFrom_11 : decode cX9_leastFrom 11 = .ok (.getfield 58, 3) := by decide +kernel
theorem dX9_leastFrom_14 : decode cX9_leastFrom 14 = .ok (.imul, 1) := by decide +kernel
theorem dX9_leastFrom_15 : decode cX9_leastFrom 15 = .ok (.if_icmp .ge 48, 3) := by decide +kernel
theorem dX9_leastFrom_18 : decode cX9_leastFrom 18 = .ok (.iload_n 3, 1) := by decide +kernel
theorem dX9_leastFrom_19 : decode cX9_leastFrom 19 = .ok (.iload 5, 2) := by decide +kernel
theorem dX9_leastFrom_21 : decode cX9_leastFrom 21 = .ok (.iconst 2, 1) := by decide +kernel
theorem dX9_leastFrom_22 : decode cX9_leastFrom 22 = .ok (.idiv, 1) := by decide +kernel
theorem dX9_leastFrom_23 : decode cX9_leastFrom 23 = .ok (.ishr, 1) := by decide +kernel
theorem dX9_leastFrom_24 : decode cX9_leastFrom 24 = .ok (.iconst 1, 1) := by decide +kernel
theorem dX9_leastFrom_25 : decode cX9_leastFrom 25 = .ok (.iand, 1) := by decide +kernel
theorem dX9_leastFrom_26 : decode cX9_leastFrom 26 = .ok (.iconst 1, 1) := by decide +kernel
theorem dX9_leastFrom_27 : decode cX9_leastFrom 27 = .ok (.if_icmp .ne 30, 3) := by decide +kernel
theorem dX9_leastFrom_30 : decode cX9_leastFrom 30 = .ok (.aload_n 0, 1) := by decide +kernel
theorem dX9_leastFrom_31 : decode cX9_leastFrom 31 = .ok (.iload_n 1, 1) := by decide +kernel
theorem dX9_leastFrom_32 : decode cX9_leastFrom 32 = .ok (.iload_n 2, 1) := by decide +kernel
theorem dX9_leastFrom_33 : decode cX9_leastFrom 33 = .ok (.iload_n 3, 1) := by decide +kernel
theorem dX9_leastFrom_34 : decode cX9_leastFrom 34 = .ok (.iload 5, 2) := by decide +kernel
theorem dX9_leastFrom_36 : decode cX9_leastFrom 36 = .ok (.invokevirtual 160, 3) := by decide +kernel
theorem dX9_leastFrom_39 : decode cX9_leastFrom 39 = .ok (.istore 6, 2) := by decide +kernel
theorem dX9_leastFrom_41 : decode cX9_leastFrom 41 = .ok (.iload 6, 2) := by decide +kernel
theorem dX9_leastFrom_43 : decode cX9_leastFrom 43 = .ok (.iload 4, 2) := by decide +kernel
theorem dX9_leastFrom_45 : decode cX9_leastFrom 45 = .ok (.if_icmp .ge 8, 3) := by decide +kernel
theorem dX9_leastFrom_48 : decode cX9_leastFrom 48 = .ok (.iload 6, 2) := by decide +kernel
theorem dX9_leastFrom_50 : decode cX9_leastFrom 50 = .ok (.goto 5, 3) := by decide +kernel
theorem dX9_leastFrom_53 : decode cX9_leastFrom 53 = .ok (.iload 4, 2) := by decide +kernel
theorem dX9_leastFrom_55 : decode cX9_leastFrom 55 = .ok (.istore 4, 2) := by decide +kernel
theorem dX9_leastFrom_57 : decode cX9_leastFrom 57 = .ok (.iinc 5 1, 3) := by decide +kernel
theorem dX9_leastFrom_60 : decode cX9_leastFrom 60 = .ok (.goto (-53), 3) := by decide +kernel
theorem dX9_leastFrom_63 : decode cX9_leastFrom 63 = .ok (.iload 4, 2) := by decide +kernel
theorem dX9_leastFrom_65 : decode cX9_leastFrom 65 = .ok (.ireturn, 1) := by decide +kernel
set_option maxRecDepth 20000 in
theorem ggX9_routeTime_X9_isCell : GoodIn wsX9_routeTime wsX9_isCell := goodIn_r _ [6, 7, 8, 9, 10, 5, 11, 51, 52, 53, 54, 55, 56, 57, 58, 59, 60, 61, 62, 63, 64, 65, 66, 67, 68, 69, 70] (by decide +kernel) (by decide +kernel)
set_option maxRecDepth 20000 in
theorem gX9_routeTime_X9_isCell : GoodIn wsX9_routeTime (wsV RX9 61 RX9 yX9_isCell wsX9_isCell) := goodIn_app (goodIn_of _ (by decide +kernel)) ggX9_routeTime_X9_isCell
set_option maxRecDepth 20000 in
theorem ggX9_routeTime_X9_findRests : GoodIn wsX9_routeTime wsX9_findRests := goodIn_r _ [15, 1, 16, 17, 18, 19, 20, 5, 21, 22, 23, 24, 25, 26, 27, 28, 29, 30, 31, 32, 33, 34, 35, 36, 37, 38, 39, 40, 41, 42, 43, 44, 45, 46, 47, 48, 49, 50, 51, 52, 53, 54, 55, 56, 57, 58, 59, 60, 61, 62, 63, 64, 65, 66, 67, 68, 69, 70] (by decide +kernel) (by decide +kernel)
set_option maxRecDepth 20000 in
theorem gX9_routeTime_X9_findRests : GoodIn wsX9_routeTime (wsV RX9 164 RX9 yX9_findRests wsX9_findRests) := goodIn_app (goodIn_of _ (by decide +kernel)) ggX9_routeTime_X9_findRests
set_option maxRecDepth 20000 in
theorem ggX9_routeTime_X9_leastFrom : GoodIn wsX9_routeTime wsX9_leastFrom := goodIn_r _ [27, 28, 1, 29, 30, 31, 5, 32, 16, 33, 34, 35, 36, 17, 37, 38, 39, 40, 41, 42, 43, 44, 45, 23, 22, 46, 47, 48, 49, 50, 51, 52, 53, 54, 55, 56, 57, 58, 59, 60, 61, 62, 63, 64, 65, 66, 67, 68, 69, 70] (by decide +kernel) (by decide +kernel)
set_option maxRecDepth 20000 in
theorem gX9_routeTime_X9_leastFrom : GoodIn wsX9_routeTime (wsV RX9 154 RX9 yX9_leastFrom wsX9_leastFrom) := goodIn_app (goodIn_of _ (by decide +kernel)) ggX9_routeTime_X9_leastFrom
theorem dX9_routeTime_0 : decode cX9_routeTime 0 = .ok (.aload_n 0, 1) := by decide +kernel
theorem dX9_routeTime_1 : decode cX9_routeTime 1 = .ok (.iload_n 1, 1) := by decide +kernel
theorem dX9_routeTime_2 : decode cX9_routeTime 2 = .ok (.iload_n 2, 1) := by decide +kernel
theorem dX9_routeTime_3 : decode cX9_routeTime 3 = .ok (.invokevirtual 61, 3) := by decide +kernel
theorem dX9_routeTime_6 : decode cX9_routeTime 6 = .ok (.ifCond .ne 5, 3) := by decide +kernel
theorem dX9_routeTime_9 : decode cX9_routeTime 9 = .ok (.iconst (-1), 1) := by decide +kernel
theorem dX9_routeTime_10 : decode cX9_routeTime 10 = .ok (.ireturn, 1) := by decide +kernel
theorem dX9_routeTime_11 : decode cX9_routeTime 11 = .ok (.aload_n 0, 1) := by decide +kernel
theorem dX9_routeTime_12 : decode cX9_routeTime 12 = .ok (.invokevirtual 164, 3) := by decide +kernel
theorem dX9_routeTime_15 : decode cX9_routeTime 15 = .ok (.aload_n 0, 1) := by decide +kernel
theorem dX9_routeTime_16 : decode cX9_routeTime 16 = .ok (.getfield 58, 3) := by decide +kernel
theorem dX9_routeTime_19 : decode cX9_routeTime 19 = .ok (.ifCond .ne 7, 3) := by decide +kernel
theorem dX9_routeTime_22 : decode cX9_routeTime 22 = .ok (.iconst 0, 1) := by decide +kernel
theorem dX9_routeTime_23 : decode cX9_routeTime 23 = .ok (.goto 17, 3) := by decide +kernel
theorem dX9_routeTime_26 : decode cX9_routeTime 26 = .ok (.aload_n 0, 1) := by decide +kernel
theorem dX9_routeTime_27 : decode cX9_routeTime 27 = .ok (.iload_n 1, 1) := by decide +kernel
theorem dX9_routeTime_28 : decode cX9_routeTime 28 = .ok (.iload_n 2, 1) := by decide +kernel
theorem dX9_routeTime_29 : decode cX9_routeTime 29 = .ok (.iconst 1, 1) := by decide +kernel
theorem dX9_routeTime_30 : decode cX9_routeTime 30 = .ok (.aload_n 0, 1) := by decide +kernel
theorem dX9_routeTime_31 : decode cX9_routeTime 31 = .ok (.getfield 58, 3) := by decide +kernel
theorem dX9_routeTime_34 : decode cX9_routeTime 34 = .ok (.ishl, 1) := by decide +kernel
theorem dX9_routeTime_35 : decode cX9_routeTime 35 = .ok (.iconst 1, 1) := by decide +kernel
theorem dX9_routeTime_36 : decode cX9_routeTime 36 = .ok (.isub, 1) := by decide +kernel
theorem dX9_routeTime_37 : decode cX9_routeTime 37 = .ok (.invokevirtual 154, 3) := by decide +kernel
theorem dX9_routeTime_40 : decode cX9_routeTime 40 = .ok (.ireturn, 1) := by decide +kernel
set_option maxRecDepth 20000 in
theorem ggX9_firstLeg_X9_leastFrom : GoodIn wsX9_firstLeg wsX9_leastFrom := goodIn_r _ [5, 6, 7, 8, 9, 10, 4, 11, 12, 13, 14, 15, 16, 17, 18, 19, 20, 21, 22, 23, 24, 25, 26, 27, 28, 29, 30, 31, 32, 33, 34, 35, 36, 37, 38, 39, 40, 41, 42, 43, 44, 45, 46, 47, 48, 49, 50, 51, 52, 53] (by decide +kernel) (by decide +kernel)
set_option maxRecDepth 20000 in
theorem gX9_firstLeg_X9_leastFrom : GoodIn wsX9_firstLeg (wsV RX9 154 RX9 yX9_leastFrom wsX9_leastFrom) := goodIn_app (goodIn_of _ (by decide +kernel)) ggX9_firstLeg_X9_leastFrom
set_option maxRecDepth 20000 in
theorem ggX9_firstLeg_X9_totalBy : GoodIn wsX9_firstLeg wsX9_totalBy := goodIn_r _ [11, 12, 13, 14, 15, 4, 16, 17, 18, 19, 20, 21, 22, 23, 24, 25, 26, 27, 28, 29, 30, 31, 32, 33, 34, 35, 36, 37, 38, 39, 40, 41, 42, 43, 44, 45, 46, 47, 48, 49, 50, 51, 52, 53] (by decide +kernel) (by decide +kernel)
set_option maxRecDepth 20000 in
theorem gX9_firstLeg_X9_totalBy : GoodIn wsX9_firstLeg (wsV RX9 160 RX9 yX9_totalBy wsX9_totalBy) := goodIn_app (goodIn_of _ (by decide +kernel)) ggX9_firstLeg_X9_totalBy
theorem dX9_firstLeg_0 : decode cX9_firstLeg 0 = .ok (.aload_n 0, 1) := by decide +kernel
theorem dX9_firstLeg_1 : decode cX9_firstLeg 1 = .ok (.iload_n 1, 1) := by decide +kernel
theorem dX9_firstLeg_2 : decode cX9_firstLeg 2 = .ok (.iload_n 2, 1) := by decide +kernel
theorem dX9_firstLeg_3 : decode cX9_firstLeg 3 = .ok (.iload_n 3, 1) := by decide +kernel
theorem dX9_firstLeg_4 : decode cX9_firstLeg 4 = .ok (.invokevirtual 154, 3) := by decide +kernel
theorem dX9_firstLeg_7 : decode cX9_firstLeg 7 = .ok (.istore 4, 2) := by decide +kernel
theorem dX9_firstLeg_9 : decode cX9_firstLeg 9 = .ok (.iconst 0, 1) := by decide +kernel
theorem dX9_firstLeg_10 : decode cX9_firstLeg 10 = .ok (.istore 5, 2) := by decide +kernel
theorem dX9_firstLeg_12 : decode cX9_firstLeg 12 = .ok (.iload_n 3, 1) := by decide +kernel
theorem dX9_firstLeg_13 : decode cX9_firstLeg 13 = .ok (.iload 5, 2) := by decide +kernel
theorem dX9_firstLeg_15 : decode cX9_firstLeg 15 = .ok (.iconst 2, 1) := by decide +kernel
theorem dX9_firstLeg_16 : decode cX9_firstLeg 16 = .ok (.idiv, 1) := by decide +kernel
theorem dX9_firstLeg_17 : decode cX9_firstLeg 17 = .ok (.ishr, 1) := by decide +kernel
theorem dX9_firstLeg_18 : decode cX9_firstLeg 18 = .ok (.iconst 1, 1) := by decide +kernel
theorem dX9_firstLeg_19 : decode cX9_firstLeg 19 = .ok (.iand, 1) := by decide +kernel
theorem dX9_firstLeg_20 : decode cX9_firstLeg 20 = .ok (.ifCond .eq 17, 3) := by decide +kernel
theorem dX9_firstLeg_23 : decode cX9_firstLeg 23 = .ok (.aload_n 0, 1) := by decide +kernel
theorem dX9_firstLeg_24 : decode cX9_firstLeg 24 = .ok (.iload_n 1, 1) := by decide +kernel
theorem dX9_firstLeg_25 : decode cX9_firstLeg 25 = .ok (.iload_n 2, 1) := by decide +kernel
theorem dX9_firstLeg_26 : decode cX9_firstLeg 26 = .ok (.iload_n 3, 1) := by decide +kernel
theorem dX9_firstLeg_27 : decode cX9_firstLeg 27 = .ok (.iload 5, 2) := by decide +kernel
theorem dX9_firstLeg_29 : decode cX9_firstLeg 29 = .ok (.invokevirtual 160, 3) := by decide +kernel
theorem dX9_firstLeg_32 : decode cX9_firstLeg 32 = .ok (.iload 4, 2) := by decide +kernel
theorem dX9_firstLeg_34 : decode cX9_firstLeg 34 = .ok (.if_icmp .eq 9, 3) := by decide +kernel
theorem dX9_firstLeg_37 : decode cX9_firstLeg 37 = .ok (.iinc 5 1, 3) := by decide +kernel
theorem dX9_firstLeg_40 : decode cX9_firstLeg 40 = .ok (.goto (-28), 3) := by decide +kernel
theorem dX9_firstLeg_43 : decode cX9_firstLeg 43 = .ok (.iload 5, 2) := by decide +kernel
theorem dX9_firstLeg_45 : decode cX9_firstLeg 45 = .ok (.ireturn, 1) := by decide +kernel
set_option maxRecDepth 20000 in
theorem ggX9_routeStep_X9_isCell : GoodIn wsX9_routeStep wsX9_isCell := goodIn_r _ [7, 8, 9, 10, 11, 6, 12, 55, 56, 57, 58, 59, 60, 61, 62, 63, 64, 65, 66, 67, 68, 69, 70, 71, 72, 73, 74] (by decide +kernel) (by decide +kernel)
set_option maxRecDepth 20000 in
theorem gX9_routeStep_X9_isCell : GoodIn wsX9_routeStep (wsV RX9 61 RX9 yX9_isCell wsX9_isCell) := goodIn_app (goodIn_of _ (by decide +kernel)) ggX9_routeStep_X9_isCell
set_option maxRecDepth 20000 in
theorem ggX9_routeStep_X9_findRests : GoodIn wsX9_routeStep wsX9_findRests := goodIn_r _ [16, 1, 17, 2, 18, 19, 20, 6, 21, 22, 23, 24, 25, 26, 27, 28, 29, 30, 31, 32, 33, 34, 35, 36, 37, 38, 39, 40, 41, 42, 43, 44, 45, 46, 47, 48, 49, 50, 55, 56, 57, 58, 59, 60, 61, 62, 63, 64, 65, 66, 67, 68, 69, 70, 71, 72, 73, 74] (by decide +kernel) (by decide +kernel)
set_option maxRecDepth 20000 in
theorem gX9_routeStep_X9_findRests : GoodIn wsX9_routeStep (wsV RX9 164 RX9 yX9_findRests wsX9_findRests) := goodIn_app (goodIn_of _ (by decide +kernel)) ggX9_routeStep_X9_findRests
set_option maxRecDepth 20000 in
theorem ggX9_routeStep_X9_firstLeg : GoodIn wsX9_routeStep wsX9_firstLeg := goodIn_r _ [54, 24, 25, 26, 6, 27, 28, 1, 29, 30, 31, 32, 17, 33, 34, 35, 36, 2, 37, 38, 39, 40, 41, 42, 43, 44, 45, 23, 22, 46, 47, 48, 49, 50, 55, 56, 57, 58, 59, 60, 61, 62, 63, 64, 65, 66, 67, 68, 69, 70, 71, 72, 73, 74] (by decide +kernel) (by decide +kernel)
set_option maxRecDepth 20000 in
theorem gX9_routeStep_X9_firstLeg : GoodIn wsX9_routeStep (wsV RX9 167 RX9 yX9_firstLeg wsX9_firstLeg) := goodIn_app (goodIn_of _ (by decide +kernel)) ggX9_routeStep_X9_firstLeg
set_option maxRecDepth 20000 in
theorem ggX9_routeStep_X9_exitColumn : GoodIn wsX9_routeStep wsX9_exitColumn := goodIn_r _ [21, 22, 23, 55, 56, 57, 58, 59, 60, 61, 62, 63, 64, 65, 66, 67, 68, 69, 70, 71, 72, 73, 74] (by decide +kernel) (by decide +kernel)
set_option maxRecDepth 20000 in
theorem gX9_routeStep_X9_exitColumn : GoodIn wsX9_routeStep (wsV RX9 151 RX9 yX9_exitColumn wsX9_exitColumn) := goodIn_app (goodIn_of _ (by decide +kernel)) ggX9_routeStep_X9_exitColumn
theorem dX9_routeStep_0 : decode cX9_routeStep 0 = .ok (.aload_n 0, 1) := by decide +kernel
theorem dX9_routeStep_1 : decode cX9_routeStep 1 = .ok (.iload_n 1, 1) := by decide +kernel
theorem dX9_routeStep_2 : decode cX9_routeStep 2 = .ok (.iload_n 2, 1) := by decide +kernel
theorem dX9_routeStep_3 : decode cX9_routeStep 3 = .ok (.invokevirtual 61, 3) := by decide +kernel
theorem dX9_routeStep_6 : decode cX9_routeStep 6 = .ok (.ifCond .ne 5, 3) := by decide +kernel
theorem dX9_routeStep_9 : decode cX9_routeStep 9 = .ok (.iconst (-1), 1) := by decide +kernel
theorem dX9_routeStep_10 : decode cX9_routeStep 10 = .ok (.ireturn, 1) := by decide +kernel
theorem dX9_routeStep_11 : decode cX9_routeStep 11 = .ok (.iload_n 3, 1) := by decide +kernel
theorem dX9_routeStep_12 : decode cX9_routeStep 12 = .ok (.ifCond .ge 6, 3) := by decide +kernel
theorem dX9_routeStep_15 : decode cX9_routeStep 15 = .ok (.bipush (-4), 2) := by decide +kernel
theorem dX9_routeStep_17 : decode cX9_routeStep 17 = .ok (.ireturn, 1) := by decide +kernel
theorem dX9_routeStep_18 : decode cX9_routeStep 18 = .ok (.iload_n 3, 1) := by decide +kernel
theorem dX9_routeStep_19 : decode cX9_routeStep 19 = .ok (.aload_n 0, 1) := by decide +kernel
theorem dX9_routeStep_20 : decode cX9_routeStep 20 = .ok (.getfield 58, 3) := by decide +kernel
theorem dX9_routeStep_23 : decode cX9_routeStep 23 = .ok (.if_icmp .lt 6, 3) := by decide +kernel
theorem dX9_routeStep_26 : decode cX9_routeStep 26 = .ok (.bipush (-6), 2) := by decide +kernel
theorem dX9_routeStep_28 : decode cX9_routeStep 28 = .ok (.ireturn, 1) := by decide +kernel
theorem dX9_routeStep_29 : decode cX9_routeStep 29 = .ok (.aload_n 0, 1) := by decide +kernel
theorem dX9_routeStep_30 : decode cX9_routeStep 30 = .ok (.invokevirtual 164, 3) := by decide +kernel
theorem dX9_routeStep_33 : decode cX9_routeStep 33 = .ok (.iconst 1, 1) := by decide +kernel
theorem dX9_routeStep_34 : decode cX9_routeStep 34 = .ok (.aload_n 0, 1) := by decide +kernel
theorem dX9_routeStep_35 : decode cX9_routeStep 35 = .ok (.getfield 58, 3) := by decide +kernel
theorem dX9_routeStep_38 : decode cX9_routeStep 38 = .ok (.ishl, 1) := by decide +kernel
theorem dX9_routeStep_39 : decode cX9_routeStep 39 = .ok (.iconst 1, 1) := by decide +kernel
theorem dX9_routeStep_40 : decode cX9_routeStep 40 = .ok (.isub, 1) := by decide +kernel
theorem dX9_routeStep_41 : decode cX9_routeStep 41 = .ok (.istore 4, 2) := by decide +kernel
theorem dX9_routeStep_43 : decode cX9_routeStep 43 = .ok (.aload_n 0, 1) := by decide +kernel
theorem dX9_routeStep_44 : decode cX9_routeStep 44 = .ok (.iload_n 1, 1) := by decide +kernel
theorem dX9_routeStep_45 : decode cX9_routeStep 45 = .ok (.iload_n 2, 1) := by decide +kernel
theorem dX9_routeStep_46 : decode cX9_routeStep 46 = .ok (.iload 4, 2) := by decide +kernel
theorem dX9_routeStep_48 : decode cX9_routeStep 48 = .ok (.invokevirtual 167, 3) := by decide +kernel
theorem dX9_routeStep_51 : decode cX9_routeStep 51 = .ok (.istore 5, 2) := by decide +kernel
theorem dX9_routeStep_53 : decode cX9_routeStep 53 = .ok (.iconst 0, 1) := by decide +kernel
theorem dX9_routeStep_54 : decode cX9_routeStep 54 = .ok (.istore 6, 2) := by decide +kernel
theorem dX9_routeStep_56 : decode cX9_routeStep 56 = .ok (.iload 6, 2) := by decide +kernel
theorem dX9_routeStep_58 : decode cX9_routeStep 58 = .ok (.iload_n 3, 1) := by decide +kernel
theorem dX9_routeStep_59 : decode cX9_routeStep 59 = .ok (.if_icmp .ge 45, 3) := by decide +kernel
theorem dX9_routeStep_62 : decode cX9_routeStep 62 = .ok (.iload 4, 2) := by decide +kernel
theorem dX9_routeStep_64 : decode cX9_routeStep 64 = .ok (.iconst 1, 1) := by decide +kernel
theorem dX9_routeStep_65 : decode cX9_routeStep 65 = .ok (.iload 5, 2) := by decide +kernel
theorem dX9_routeStep_67 : decode cX9_routeStep 67 = .ok (.iconst 2, 1) := by decide +kernel
theorem dX9_routeStep_68 : decode cX9_routeStep 68 = .ok (.idiv, 1) := by decide +kernel
theorem dX9_routeStep_69 : decode cX9_routeStep 69 = .ok (.ishl, 1) := by decide +kernel
theorem dX9_routeStep_70 : decode cX9_routeStep 70 = .ok (.iconst (-1), 1) := by decide +kernel
theorem dX9_routeStep_71 : decode cX9_routeStep 71 = .ok (.ixor, 1) := by decide +kernel
theorem dX9_routeStep_72 : decode cX9_routeStep 72 = .ok (.iand, 1) := by decide +kernel
theorem dX9_routeStep_73 : decode cX9_routeStep 73 = .ok (.istore 4, 2) := by decide +kernel
theorem dX9_routeStep_75 : decode cX9_routeStep 75 = .ok (.aload_n 0, 1) := by decide +kernel
theorem dX9_routeStep_76 : decode cX9_routeStep 76 = .ok (.aload_n 0, 1) := by decide +kernel
theorem dX9_routeStep_77 : decode cX9_routeStep 77 = .ok (.getfield 29, 3) := by decide +kernel
theorem dX9_routeStep_80 : decode cX9_routeStep 80 = .ok (.iload 5, 2) := by decide +kernel
theorem dX9_routeStep_82 : decode cX9_routeStep 82 = .ok (.iconst 2, 1) := by decide +kernel
theorem dX9_routeStep_83 : decode cX9_routeStep 83 = .ok (.idiv, 1) := by decide +kernel
theorem dX9_routeStep_84 : decode cX9_routeStep 84 = .ok (.iaload, 1) := by decide +kernel
theorem dX9_routeStep_85 : decode cX9_routeStep 85 = .ok (.aload_n 0, 1) := by decide +kernel
theorem dX9_routeStep_86 : decode cX9_routeStep 86 = .ok (.iload 5, 2) := by decide +kernel
theorem dX9_routeStep_88 : decode cX9_routeStep 88 = .ok (.invokevirtual 151, 3) := by decide +kernel
theorem dX9_routeStep_91 : decode cX9_routeStep 91 = .ok (.iload 4, 2) := by decide +kernel
theorem dX9_routeStep_93 : decode cX9_routeStep 93 = .ok (.invokevirtual 167, 3) := by decide +kernel
theorem dX9_routeStep_96 : decode cX9_routeStep 96 = .ok (.istore 5, 2) := by decide +kernel
theorem dX9_routeStep_98 : decode cX9_routeStep 98 = .ok (.iinc 6 1, 3) := by decide +kernel
theorem dX9_routeStep_101 : decode cX9_routeStep 101 = .ok (.goto (-45), 3) := by decide +kernel
theorem dX9_routeStep_104 : decode cX9_routeStep 104 = .ok (.iload 5, 2) := by decide +kernel
theorem dX9_routeStep_106 : decode cX9_routeStep 106 = .ok (.ireturn, 1) := by decide +kernel
theorem dJ9_floorDiv_7cf53_0 : decode cJ9_floorDiv_7cf53 0 = .ok (.iload_n 0, 1) := by decide +kernel
theorem dJ9_floorDiv_7cf53_1 : decode cJ9_floorDiv_7cf53 1 = .ok (.iload_n 1, 1) := by decide +kernel
theorem dJ9_floorDiv_7cf53_2 : decode cJ9_floorDiv_7cf53 2 = .ok (.idiv, 1) := by decide +kernel
theorem dJ9_floorDiv_7cf53_3 : decode cJ9_floorDiv_7cf53 3 = .ok (.istore_n 2, 1) := by decide +kernel
theorem dJ9_floorDiv_7cf53_4 : decode cJ9_floorDiv_7cf53 4 = .ok (.iload_n 0, 1) := by decide +kernel
theorem dJ9_floorDiv_7cf53_5 : decode cJ9_floorDiv_7cf53 5 = .ok (.iload_n 1, 1) := by decide +kernel
theorem dJ9_floorDiv_7cf53_6 : decode cJ9_floorDiv_7cf53 6 = .ok (.ixor, 1) := by decide +kernel
theorem dJ9_floorDiv_7cf53_7 : decode cJ9_floorDiv_7cf53 7 = .ok (.ifCond .ge 14, 3) := by decide +kernel
theorem dJ9_floorDiv_7cf53_10 : decode cJ9_floorDiv_7cf53 10 = .ok (.iload_n 2, 1) := by decide +kernel
theorem dJ9_floorDiv_7cf53_11 : decode cJ9_floorDiv_7cf53 11 = .ok (.iload_n 1, 1) := by decide +kernel
theorem dJ9_floorDiv_7cf53_12 : decode cJ9_floorDiv_7cf53 12 = .ok (.imul, 1) := by decide +kernel
theorem dJ9_floorDiv_7cf53_13 : decode cJ9_floorDiv_7cf53 13 = .ok (.iload_n 0, 1) := by decide +kernel
theorem dJ9_floorDiv_7cf53_14 : decode cJ9_floorDiv_7cf53 14 = .ok (.if_icmp .eq 7, 3) := by decide +kernel
theorem dJ9_floorDiv_7cf53_17 : decode cJ9_floorDiv_7cf53 17 = .ok (.iload_n 2, 1) := by decide +kernel
theorem dJ9_floorDiv_7cf53_18 : decode cJ9_floorDiv_7cf53 18 = .ok (.iconst 1, 1) := by decide +kernel
theorem dJ9_floorDiv_7cf53_19 : decode cJ9_floorDiv_7cf53 19 = .ok (.isub, 1) := by decide +kernel
theorem dJ9_floorDiv_7cf53_20 : decode cJ9_floorDiv_7cf53 20 = .ok (.ireturn, 1) := by decide +kernel
theorem dJ9_floorDiv_7cf53_21 : decode cJ9_floorDiv_7cf53 21 = .ok (.iload_n 2, 1) := by decide +kernel
theorem dJ9_floorDiv_7cf53_22 : decode cJ9_floorDiv_7cf53 22 = .ok (.ireturn, 1) := by decide +kernel
theorem dJ9_abs_0f7a4_0 : decode cJ9_abs_0f7a4 0 = .ok (.iload_n 0, 1) := by decide +kernel
theorem dJ9_abs_0f7a4_1 : decode cJ9_abs_0f7a4 1 = .ok (.ifCond .ge 8, 3) := by decide +kernel
theorem dJ9_abs_0f7a4_4 : decode cJ9_abs_0f7a4 4 = .ok (.iload_n 0, 1) := by decide +kernel
theorem dJ9_abs_0f7a4_5 : decode cJ9_abs_0f7a4 5 = .ok (.ineg, 1) := by decide +kernel
theorem dJ9_abs_0f7a4_6 : decode cJ9_abs_0f7a4 6 = .ok (.goto 4, 3) := by decide +kernel
theorem dJ9_abs_0f7a4_9 : decode cJ9_abs_0f7a4 9 = .ok (.iload_n 0, 1) := by decide +kernel
theorem dJ9_abs_0f7a4_10 : decode cJ9_abs_0f7a4 10 = .ok (.ireturn, 1) := by decide +kernel
theorem dJ9_max_7cf53_0 : decode cJ9_max_7cf53 0 = .ok (.iload_n 0, 1) := by decide +kernel
theorem dJ9_max_7cf53_1 : decode cJ9_max_7cf53 1 = .ok (.iload_n 1, 1) := by decide +kernel
theorem dJ9_max_7cf53_2 : decode cJ9_max_7cf53 2 = .ok (.if_icmp .lt 7, 3) := by decide +kernel
theorem dJ9_max_7cf53_5 : decode cJ9_max_7cf53 5 = .ok (.iload_n 0, 1) := by decide +kernel
theorem dJ9_max_7cf53_6 : decode cJ9_max_7cf53 6 = .ok (.goto 4, 3) := by decide +kernel
theorem dJ9_max_7cf53_9 : decode cJ9_max_7cf53 9 = .ok (.iload_n 1, 1) := by decide +kernel
theorem dJ9_max_7cf53_10 : decode cJ9_max_7cf53 10 = .ok (.ireturn, 1) := by decide +kernel
theorem dJ9_min_7cf53_0 : decode cJ9_min_7cf53 0 = .ok (.iload_n 0, 1) := by decide +kernel
theorem dJ9_min_7cf53_1 : decode cJ9_min_7cf53 1 = .ok (.iload_n 1, 1) := by decide +kernel
theorem dJ9_min_7cf53_2 : decode cJ9_min_7cf53 2 = .ok (.if_icmp .gt 7, 3) := by decide +kernel
theorem dJ9_min_7cf53_5 : decode cJ9_min_7cf53 5 = .ok (.iload_n 0, 1) := by decide +kernel
theorem dJ9_min_7cf53_6 : decode cJ9_min_7cf53 6 = .ok (.goto 4, 3) := by decide +kernel
theorem dJ9_min_7cf53_9 : decode cJ9_min_7cf53 9 = .ok (.iload_n 1, 1) := by decide +kernel
theorem dJ9_min_7cf53_10 : decode cJ9_min_7cf53 10 = .ok (.ireturn, 1) := by decide +kernel
end
section
/-! ===== The one world: 37 cells, at the addresses G.2.1 0 .. G.2.1 36; σ k j is the j-th int of cell k. 0..7 the survey's strips, 8..15 the trial's, 16 17 their lists, 18 19 the lists' arrays, 20 the survey, 21 terrain, 22 heights, 23 camera, 24 aircraft, 25 overlap, 26 planner, 27 router, 28 timeLeft; 29 the reference, 30 ground, 31..34 its strips, 35 seenFrom, 36 rest ===== -/
abbrev Sg : Type := Nat → Nat → Int32
abbrev Gm : Type := va_G × (Nat → Nat) × ClassId × ClassId × ClassId
def we (G : Gm) (k : Nat) (f : Nat → Int32) : va_E :=
  if k < 16 then .inr (5, [.int (f 0), .int (f 1), .int (f 2), .int (f 3)])
  else if k < 18 then .inr (6, [.int (f 0), .ref (G.2.1 (k + 2))])
  else if k < 20 then .inl (G.2.2.2.2, 8, .inr (.inr (.inr (.inr (fun i => some (G.2.1 (8 * (k - 18) + i)))))))
  else match k with
  | 20 => .inr (8, [.ref (G.2.1 21), .ref (G.2.1 23), .ref (G.2.1 24), .ref (G.2.1 16), .ref (G.2.1 25), .ref (G.2.1 26), .ref (G.2.1 27)])
  | 21 => .inr (7, [.int (f 0), .int (f 1), .ref (G.2.1 22)])
  | 22 => .inl (G.2.2.1, 160, .inl f)
  | 23 => .inr (1, [.int (f 0), .int (f 1), .int (f 2), .int (f 3)])
  | 24 => .inr (0, [.int (f 0), .int (f 1), .int (f 2)])
  | 25 => .inr (2, [.int (f 0), .int (f 1), .int (f 2)])
  | 26 => .inr (3, [.int (f 0), .int (f 1), .int (f 2), .ref (G.2.1 17)])
  | 27 => .inr (4, [.ref (G.2.1 28), .int (f 1), .int (f 2)])
  | 28 => .inl (G.2.2.1, 4096, .inl f)
  | 29 => .inr (9, [.int (f 0), .int (f 1), .int (f 2), .int (f 3), .int (f 4), .int (f 5), .int (f 6), .int (f 7), .int (f 8), .ref (G.2.1 30), .int (f 10), .ref (G.2.1 31), .ref (G.2.1 32), .ref (G.2.1 33), .ref (G.2.1 34), .ref (G.2.1 35), .int (f 16), .int (f 17), .int (f 18), .ref (G.2.1 36)])
  | 30 => .inl (G.2.2.1, 160, .inl f)
  | 31 => .inl (G.2.2.1, 8, .inl f)
  | 32 => .inl (G.2.2.1, 8, .inl f)
  | 33 => .inl (G.2.2.1, 8, .inl f)
  | 34 => .inl (G.2.2.1, 8, .inl f)
  | 35 => .inl (G.2.2.2.1, 25600, .inl f)
  | _ => .inl (G.2.2.1, 4096, .inl f)
theorem we_s (G : Gm) {k : Nat} (h : k < 16) (f : Nat → Int32) : we G k f = .inr (5, [.int (f 0), .int (f 1), .int (f 2), .int (f 3)]) := by simp [we, h]
theorem we_l (G : Gm) {b : Nat} (h : b < 2) (f : Nat → Int32) : we G (16 + b) f = .inr (6, [.int (f 0), .ref (G.2.1 (18 + b))]) := by
  have e : 16 + b + 2 = 18 + b := by omega
  have h1 : ¬ 16 + b < 16 := by omega
  have h2 : 16 + b < 18 := by omega
  simp only [we, if_neg h1, if_pos h2, e]
theorem we_a (G : Gm) {b : Nat} (h : b < 2) (f : Nat → Int32) : we G (18 + b) f = .inl (G.2.2.2.2, 8, .inr (.inr (.inr (.inr (fun i => some (G.2.1 (8 * b + i))))))) := by
  have e : 18 + b - 18 = b := by omega
  have h1 : ¬ 18 + b < 16 := by omega
  have h2 : ¬ 18 + b < 18 := by omega
  have h3 : 18 + b < 20 := by omega
  simp only [we, if_neg h1, if_neg h2, if_pos h3, e]
def wl (G : Gm) (σ : Sg) : va_W := (List.range 37).map (fun k => (G.2.1 k, we G k (σ k)))
theorem wl_at (G : Gm) (σ : Sg) {k : Nat} (h : k < 37) : (wl G σ)[k]? = some (G.2.1 k, we G k (σ k)) := by simp [wl, h]
theorem wl_in {G : Gm} {σ : Sg} {k : Nat} {q : Nat × va_E} (h : (wl G σ)[k]? = some q) : k < 37 ∧ q = (G.2.1 k, we G k (σ k)) := by
  have hk : k < 37 := by
    have := (List.getElem?_eq_some_iff.mp h).1
    simpa [wl] using this
  rw [wl_at G σ hk] at h
  exact ⟨hk, (Option.some.inj h).symm⟩
def u2 (σ : Sg) (k j : Nat) (v : Int32) : Sg := va_up σ k (va_up (σ k) j v)
theorem u2_ss (σ : Sg) (k j : Nat) (v : Int32) : u2 σ k j v k j = v := by simp [u2, va_up]
theorem u2_sn (σ : Sg) (k : Nat) {j j' : Nat} (v : Int32) (h : j' ≠ j) : u2 σ k j v k j' = σ k j' := by simp [u2, va_up, h]
theorem u2_n (σ : Sg) {k k' : Nat} (j : Nat) (v : Int32) (h : k' ≠ k) : u2 σ k j v k' = σ k' := by simp [u2, va_up, h]
theorem u2_s (σ : Sg) (k j : Nat) (v : Int32) : u2 σ k j v k = va_up (σ k) j v := by simp [u2, va_up]
theorem up_s {α : Type} (f : Nat → α) (k : Nat) (v : α) : va_up f k v k = v := by simp [va_up]
theorem up_n {α : Type} (f : Nat → α) {k k' : Nat} (v : α) (h : k' ≠ k) : va_up f k v k' = f k' := by simp [va_up, h]
theorem wl_set (G : Gm) (σ : Sg) {k : Nat} (hk : k < 37) (f : Nat → Int32) : (wl G σ).set k (G.2.1 k, we G k f) = wl G (va_up σ k f) := by
  apply List.ext_getElem?
  intro i
  by_cases hi : i = k
  · subst hi
    rw [List.getElem?_set_self (by simpa [wl] using hk), wl_at G _ hk, up_s]
  · rw [List.getElem?_set_ne (Ne.symm hi)]
    by_cases h : i < 37
    · rw [wl_at G _ h, wl_at G _ h, up_n _ _ hi]
    · simp [wl, h]
def Hp (G : Gm) (σ : Sg) (H : Heap) : Prop := va_P G.1 vwCl (wl G σ) H
def inj37 (G : Gm) : Prop := ∀ i j : Nat, i < 37 → j < 37 → G.2.1 i = G.2.1 j → i = j
def fr (G : Gm) : Nat → Prop := fun q => ∃ k : Nat, k < 37 ∧ q = G.2.1 k
theorem wl_D {G : Gm} (h : inj37 G) (σ : Sg) : va_D (fr G) (wl G σ) := by
  refine ⟨fun i j p q hi hj e => ?_, fun k q hk => ?_⟩
  · obtain ⟨h1, rfl⟩ := wl_in hi
    obtain ⟨h2, rfl⟩ := wl_in hj
    exact h i j h1 h2 e
  · obtain ⟨h1, rfl⟩ := wl_in hk
    exact ⟨k, h1, rfl⟩
def NW (U : State) : Prop := va_Nw (.methodLinkNest RX7 32 yX8_quotient RX8) U ∧ va_Nw (.methodLinkNest RX5 22 yX8_quotient RX8) U ∧ va_Nw (.methodLinkNest RX2 25 yX8_quotient RX8) U ∧ va_Nw (.methodLinkNest RX6 47 yX8_quotient RX8) U ∧ va_Nw (.methodLinkNest RX0 27 yX8_quotient RX8) U
abbrev tys3 (G : Gm) : List (ClassId × FieldType) := [(G.2.2.1, .int), (G.2.2.2.1, .boolean), (G.2.2.2.2, .object RX5)]
def KK (G : Gm) (U : State) : Prop := va_K G.1 vwCl (tys3 G) U ∧ inj37 G ∧ NW U
theorem KK.moved {G : Gm} {s U : State} (hW : s.WarmedH U.vm) (h : KK G s) : KK G U :=
  ⟨va_K.moved hW.alike h.1, h.2.1, h.2.2.1.warmM hW, h.2.2.2.1.warmM hW, h.2.2.2.2.1.warmM hW, h.2.2.2.2.2.1.warmM hW, h.2.2.2.2.2.2.warmM hW⟩
theorem KK.same {G : Gm} {s U : State} (hv : s.vm = U.vm) (h : KK G s) : KK G U :=
  ⟨va_K.moved (by rw [hv]; exact Vm.Alike.refl U.vm) h.1, h.2.1, h.2.2.1.same rfl hv, h.2.2.2.1.same rfl hv, h.2.2.2.2.1.same rfl hv, h.2.2.2.2.2.1.same rfl hv, h.2.2.2.2.2.2.same rfl hv⟩
def PP (G : Gm) (av : List Value) (σ : Sg) : Array Value → State → Prop := va_Pc av (fun U => Hp G σ U.heap ∧ KK G U)
theorem PP.blind (G : Gm) (av : List Value) (σ : Sg) : FrameBlind (PP G av σ) := fun a U g mk q => by
  obtain ⟨q0, q1, q2⟩ := q
  exact ⟨q0, q1, KK.same (s := U) (U := U.calling g mk a) rfl q2⟩
def HB (G : Gm) : Sg → State → Prop := fun σ t => Hp G σ t.heap
abbrev QI (G : Gm) (post : Int32 → Sg → Prop) : Array Value → State → Outcome → State → Prop := va_Qi post (HB G) (fr G)
abbrev QV (G : Gm) (post : Sg → Prop) : Array Value → State → Outcome → State → Prop := va_Qv post (HB G) (fr G)
abbrev QO (G : Gm) (post : Option Nat → Sg → Prop) : Array Value → State → Outcome → State → Prop := va_Qq post (HB G) (fr G)
abbrev rmO (f L : Nat) : Room := { frames := f, cells := 0, slots := 0, locals := L }
def b2i (b : Bool) : Int32 := if b then 1 else 0
theorem b2i_t : b2i true = 1 := rfl
theorem b2i_f : b2i false = 0 := rfl
theorem b2i_0 {b : Bool} : b2i b = 0 ↔ b = false := by cases b <;> simp [b2i]
theorem b2i_1 {b : Bool} : ¬ b2i b = 0 ↔ b = true := by cases b <;> simp [b2i]
theorem b2i_nar (b : Bool) : narrow .boolean (.int (b2i b)) = .int (b2i b) := by cases b <;> rfl
abbrev RV (v : Int32) (σ2 : Sg) : Int32 → Sg → Prop := fun r σ' => r = v ∧ σ' = σ2
abbrev VV (σ2 : Sg) : Sg → Prop := fun σ' => σ' = σ2
section FRAME
variable {p : Program} {l : Launch} {e : Env} {R : Room} {s : State} {m : MethodId} {args : Array Value} {below : List Frame} {meth : Method} {c : Code} {H : Heap} {locs : List Loc} {cells slots : Nat} {Q : State → Prop}
variable {cc bytes : ByteArray} {pc : Nat} {ls : Array Slot} {rest : List Value} {G : Gm} {σ : Sg} {nL : Nat} {Ts ws ws' : List Cond} {own : String} {index : Nat} {C : String} {T : u_T} {N ci : Nat} {fs : List Value} {a : Nat} {y : MethodName} {maxL n : Nat} {ret : Option FieldType} {rm : Room} {As st : List Value}
theorem Hp.he (k : Nat) (hk : k < 37) {E : va_E} (he : we G k (σ k) = E) : (wl G σ)[k]? = some (G.2.1 k, E) := by rw [wl_at G σ hk, he]
theorem r_get (CF : CallFix p m c cc nL s args Ts own) (hK : KK G s) (hH : Hp G σ H) (k : Nat) (hk : k < 37) (he : we G k (σ k) = .inr (ci, fs)) (hc : vwCl[ci]? = some (C, T, N)) (hin : ∀ w ∈ u_ws C T N, w ∈ Ts) (j : Nat) (hj : j < N) (hlink : (Cond.fieldLink own index (T j).1 (T j).2.1 (T j).2.2.1).before args s = true) {v : Value} (hv : fs[j]? = some v) (hdg : decode cc pc = .ok (.getfield index, 3))
    (kk : W p l e R s m args below meth c H locs cells slots Q (F0 m (pc + 3) ls (v :: rest))) : W p l e R s m args below meth c H locs cells slots Q (F0 m pc ls (.ref (G.2.1 k) :: rest)) :=
  va_get CF.1 CF.2.1 CF.2.2.2.2 hin CF.2.2.2.1 hK.1 hH k (Hp.he k hk he) hc j hj hlink (fun _ h => h) hv hdg kk
theorem r_put (CF : CallFix p m c cc nL s args Ts own) (hK : KK G s) (hH : Hp G σ H) (hS : va_S (fr G) s.heap H locs) (k : Nat) (hk : k < 37) (he : we G k (σ k) = .inr (ci, fs)) (hc : vwCl[ci]? = some (C, T, N)) (hin : ∀ w ∈ u_ws C T N, w ∈ Ts) (ty0 : Nat → FieldType) (hty : ∀ k, k < N → parseFieldDescriptor (T k).2.2.1 = some (ty0 k)) (hnm : ∀ a, a < N → ∀ b, b < N → a ≠ b → (T a).2.1 ≠ (T b).2.1) (j : Nat) (hj : j < N) (hlink : (Cond.fieldLink own index (T j).1 (T j).2.1 (T j).2.2.1).before args s = true) (hfin : (T j).2.2.2 = false) (hd : parseFieldDescriptor (T j).2.2.1 = some .int) {v : Int32} (hl : j < fs.length) (hnew : we G k (va_up (σ k) j v) = .inr (ci, fs.set j (.int v))) (hdg : decode cc pc = .ok (.putfield index, 3))
    (kk : ∀ (H1 : Heap) (locs1 : List Loc), Hp G (u2 σ k j v) H1 → va_S (fr G) s.heap H1 locs1 → W p l e R s m args below meth c H1 locs1 cells slots Q (F0 m (pc + 3) ls rest)) : W p l e R s m args below meth c H locs cells slots Q (F0 m pc ls (.int v :: .ref (G.2.1 k) :: rest)) := by
  refine va_put (ty := .int) CF.1 CF.2.1 CF.2.2.2.2 hin ty0 hty hnm CF.2.2.2.1 hK.1 hH (wl_D hK.2.1 σ) hS k (Hp.he k hk he) hc j hj hlink (fun _ h => h) hfin hd rfl rfl hl hdg (fun H1 locs1 hP hD hS1 => kk H1 locs1 ?_ hS1)
  rw [← hnew, wl_set G σ hk] at hP
  exact hP
theorem nI_lt_of {i : Int32} {j n : Nat} (hi : i = nI j) (hj : j < n) (hn : n < 2 ^ 31) : vp_in i n ∧ i.toNatClampNeg = j := by
  subst hi
  exact ⟨vp_in_nI hj hn, nI_clamp (by omega)⟩
theorem r_iald (CF : CallFix p m c cc nL s args Ts own) (hK : KK G s) (hH : Hp G σ H) (k : Nat) (hk : k < 37) {N : Nat} (he : we G k (σ k) = .inl (G.2.2.1, N, .inl (σ k))) (hN : N < 2 ^ 31) {i : Int32} (j : Nat) (hi : i = nI j) (hj : j < N) (hdg : decode cc pc = .ok (.iaload, 1))
    (kk : W p l e R s m args below meth c H locs cells slots Q (F0 m (pc + 1) ls (.int (σ k j) :: rest))) : W p l e R s m args below meth c H locs cells slots Q (F0 m pc ls (.int i :: .ref (G.2.1 k) :: rest)) := by
  obtain ⟨h1, h2⟩ := nI_lt_of hi hj hN
  refine va_iald CF.1 CF.2.1 hK.1 hH k 0 (Hp.he k hk he) rfl h1 hdg ?_
  rw [h2]
  exact kk
theorem r_zald (CF : CallFix p m c cc nL s args Ts own) (hK : KK G s) (hH : Hp G σ H) (k : Nat) (hk : k < 37) {N : Nat} (he : we G k (σ k) = .inl (G.2.2.2.1, N, .inl (σ k))) (hN : N < 2 ^ 31) {i : Int32} (j : Nat) (hi : i = nI j) (hj : j < N) (hdg : decode cc pc = .ok (.baload, 1))
    (kk : W p l e R s m args below meth c H locs cells slots Q (F0 m (pc + 1) ls (.int (σ k j) :: rest))) : W p l e R s m args below meth c H locs cells slots Q (F0 m pc ls (.int i :: .ref (G.2.1 k) :: rest)) := by
  obtain ⟨h1, h2⟩ := nI_lt_of hi hj hN
  refine va_zald CF.1 CF.2.1 hK.1 hH k 1 (Hp.he k hk he) rfl h1 hdg ?_
  rw [h2]
  exact kk
theorem upd_up (f : Nat → Int32) (j : Nat) (v : Int32) : upd f j v = va_up f j v := by
  funext q
  by_cases h : q = j <;> simp [upd, va_up, h]
theorem r_iast (CF : CallFix p m c cc nL s args Ts own) (hK : KK G s) (hH : Hp G σ H) (hS : va_S (fr G) s.heap H locs) (k : Nat) (hk : k < 37) {N : Nat} (he : ∀ f, we G k f = .inl (G.2.2.1, N, .inl f)) (hN : N < 2 ^ 31) {i v : Int32} (j : Nat) (hi : i = nI j) (hj : j < N) (hdg : decode cc pc = .ok (.iastore, 1))
    (kk : ∀ (H1 : Heap) (locs1 : List Loc), Hp G (u2 σ k j v) H1 → va_S (fr G) s.heap H1 locs1 → W p l e R s m args below meth c H1 locs1 cells slots Q (F0 m (pc + 1) ls rest)) : W p l e R s m args below meth c H locs cells slots Q (F0 m pc ls (.int v :: .int i :: .ref (G.2.1 k) :: rest)) := by
  obtain ⟨h1, h2⟩ := nI_lt_of hi hj hN
  refine va_iast CF.1 CF.2.1 hK.1 hH (wl_D hK.2.1 σ) hS k 0 (Hp.he k hk (he (σ k))) rfl h1 hdg (fun H1 locs1 hP hD hS1 => kk H1 locs1 ?_ hS1)
  rw [h2, upd_up, ← he, wl_set G σ hk] at hP
  exact hP
theorem r_zast (CF : CallFix p m c cc nL s args Ts own) (hK : KK G s) (hH : Hp G σ H) (hS : va_S (fr G) s.heap H locs) (k : Nat) (hk : k < 37) {N : Nat} (he : ∀ f, we G k f = .inl (G.2.2.2.1, N, .inl f)) (hN : N < 2 ^ 31) {i : Int32} {v : Bool} (j : Nat) (hi : i = nI j) (hj : j < N) (hdg : decode cc pc = .ok (.bastore, 1))
    (kk : ∀ (H1 : Heap) (locs1 : List Loc), Hp G (u2 σ k j (b2i v)) H1 → va_S (fr G) s.heap H1 locs1 → W p l e R s m args below meth c H1 locs1 cells slots Q (F0 m (pc + 1) ls rest)) : W p l e R s m args below meth c H locs cells slots Q (F0 m pc ls (.int (b2i v) :: .int i :: .ref (G.2.1 k) :: rest)) := by
  obtain ⟨h1, h2⟩ := nI_lt_of hi hj hN
  refine va_zast CF.1 CF.2.1 hK.1 hH (wl_D hK.2.1 σ) hS k 1 (Hp.he k hk (he (σ k))) rfl h1 hdg (fun H1 locs1 hP hD hS1 => kk H1 locs1 ?_ hS1)
  have e : vp_nar .boolean (b2i v) = b2i v := by cases v <;> rfl
  rw [h2, e, upd_up, ← he, wl_set G σ hk] at hP
  exact hP
theorem r_alen (CF : CallFix p m c cc nL s args Ts own) (hK : KK G s) (hH : Hp G σ H) (k : Nat) (hk : k < 37) {cA : ClassId} {x : vp_A} (he : we G k (σ k) = .inl (cA, x)) (t0 : Nat) {ty : FieldType} (ht : (tys3 G)[t0]? = some (cA, ty)) {v : Int32} (hv : Int32.ofNat x.1 = v) (hdg : decode cc pc = .ok (.arraylength, 1))
    (kk : W p l e R s m args below meth c H locs cells slots Q (F0 m (pc + 1) ls (.int v :: rest))) : W p l e R s m args below meth c H locs cells slots Q (F0 m pc ls (.ref (G.2.1 k) :: rest)) :=
  va_alen CF.1 CF.2.1 hK.1 hH k t0 (Hp.he k hk he) ht hv hdg kk
/-- a strip out of a list's array -/
theorem r_aald (CF : CallFix p m c cc nL s args Ts own) (hK : KK G s) (hH : Hp G σ H) {b : Nat} (hb : b < 2) {i : Int32} (j : Nat) (hi : i = nI j) (hj : j < 8) (hdg : decode cc pc = .ok (.aaload, 1))
    (kk : W p l e R s m args below meth c H locs cells slots Q (F0 m (pc + 1) ls (.ref (G.2.1 (8 * b + j)) :: rest))) : W p l e R s m args below meth c H locs cells slots Q (F0 m pc ls (.int i :: .ref (G.2.1 (18 + b)) :: rest)) := by
  obtain ⟨h1, h2⟩ := nI_lt_of hi hj (by omega)
  refine va_aldq CF.1 CF.2.1 hK.1 hH (18 + b) 2 (Hp.he (18 + b) (by omega) (we_a G hb _)) rfl h1 hdg ?_
  rw [h2]
  exact kk
theorem r_iret {post : Int32 → Sg → Prop} (CF : CallFix p m c cc nL s args Ts own) (hr : meth.sig.returnType = some .int) (hlk : meth.locks = false) (hH : Hp G σ H) (hS : va_S (fr G) s.heap H locs) {v : Int32} (hdg : decode cc pc = .ok (.ireturn, 1)) (hp : post v σ) : W p l e R s m args below meth c H locs cells slots (MQ below (QI G post) args s cells slots (fr G)) (F0 m pc ls [.int v]) :=
  W.iret CF.1 CF.2.1 hr (fun t ht _ => ⟨⟨v, σ, rfl, hp, by show Hp G σ t.heap; rw [ht]; exact hH⟩, hS.F ht⟩) hS.2.2 hdg hlk
theorem r_zret {post : Int32 → Sg → Prop} (CF : CallFix p m c cc nL s args Ts own) (hr : meth.sig.returnType = some .boolean) (hlk : meth.locks = false) (hH : Hp G σ H) (hS : va_S (fr G) s.heap H locs) {v : Int32} (hn : narrow .boolean (.int v) = .int v) (hdg : decode cc pc = .ok (.ireturn, 1)) (hp : post v σ) : W p l e R s m args below meth c H locs cells slots (MQ below (QI G post) args s cells slots (fr G)) (F0 m pc ls [.int v]) :=
  W.zret CF.1 CF.2.1 hr hn (fun t ht _ => ⟨⟨v, σ, rfl, hp, by show Hp G σ t.heap; rw [ht]; exact hH⟩, hS.F ht⟩) hS.2.2 hdg hlk
theorem r_vret {post : Sg → Prop} (CF : CallFix p m c cc nL s args Ts own) (hr : meth.sig.returnType = none) (hlk : meth.locks = false) (hH : Hp G σ H) (hS : va_S (fr G) s.heap H locs) (hdg : decode cc pc = .ok (.return_, 1)) (hp : post σ) : W p l e R s m args below meth c H locs cells slots (MQ below (QV G post) args s cells slots (fr G)) (F0 m pc ls []) :=
  W.vret CF.1 CF.2.1 hr (fun t ht _ => ⟨⟨σ, rfl, hp, by show Hp G σ t.heap; rw [ht]; exact hH⟩, hS.F ht⟩) hS.2.2 hdg hlk
theorem r_aret {post : Option Nat → Sg → Prop} (CF : CallFix p m c cc nL s args Ts own) {C : String} (hr : meth.sig.returnType = some (.object C)) (hlk : meth.locks = false) (hH : Hp G σ H) (hS : va_S (fr G) s.heap H locs) (o : Option Nat) {v : Value} (hv : v = va_rf o) (hdg : decode cc pc = .ok (.areturn, 1)) (hp : post o σ) : W p l e R s m args below meth c H locs cells slots (MQ below (QO G post) args s cells slots (fr G)) (F0 m pc ls [v]) :=
  W.aret CF.1 CF.2.1 hr (Or.inl ⟨_, rfl⟩) (by subst hv; cases o with | none => exact Or.inl rfl | some x => exact Or.inr ⟨x, rfl⟩) (fun t ht _ => ⟨⟨o, σ, by rw [hv], hp, by show Hp G σ t.heap; rw [ht]; exact hH⟩, hS.F ht⟩) hS.2.2 hdg hlk
theorem r_preS (hK : KK G s) (hH : Hp G σ H) : PreS s H (PP G As σ) As :=
  ⟨PP.blind G As σ, fun U hU hW => ⟨rfl, by rw [hU]; exact hH, hK.moved hW⟩⟩
theorem r_preV (hK : KK G s) (hH : Hp G σ H) (k : Nat) (hk : k < 37) (he : we G k (σ k) = .inr (ci, fs)) (hc : vwCl[ci]? = some (C, T, N)) : PreV s H C (G.2.1 k) (PP G (.ref (G.2.1 k) :: As) σ) As :=
  ⟨PP.blind G _ σ, va_recv (q := (C, T, N)) hK.1 hH hc (Hp.he k hk he), fun U hU hW => ⟨rfl, by rw [hU]; exact hH, hK.moved hW⟩⟩
abbrev hRoom (rm R : Room) (maxL cells slots : Nat) : Prop := (rm.frames + 1 ≤ R.frames ∧ 8 + (maxL + 11) + rm.locals ≤ R.locals) ∧ cells + 0 ≤ R.cells ∧ slots + 0 ≤ R.slots
abbrev hDesc (y : MethodName) (n : Nat) : Prop := y.cls ≠ "java/lang/invoke/MethodHandle" ∧ y.cls ≠ "java/lang/invoke/VarHandle" ∧ (parseMethodDescriptor y.desc).map (fun d => d.parameters.length) = some n
/-- how a run of a callee is come by -/
theorem r_runV {Qc : Array Value → State → Outcome → State → Prop} (CF : CallFix p m c cc nL s args Ts own) (hK : KK G s) (hH : Hp G σ H) (hM : Met l y ws rm (PP G (.ref a :: As) σ) Qc 0 0 (fr G)) (hG : GoodIn Ts (wsV own index C y ws)) (hw : ws = Cond.code y bytes maxL ret :: ws') (hrc : rm.cells = 0) (hrs : rm.slots = 0) (hy : y.cls = C) (hd : hDesc y n) (hR : hRoom rm R maxL cells slots)
    (k : Nat) (ha : a = G.2.1 k) (hk : k < 37) (he : we G k (σ k) = .inr (ci, fs)) (hc : vwCl[ci]? = some (C, T, N)) (hn : As.length = n) (hsz : ls.size = nL) (hst : st = As.reverse ++ .ref a :: rest) (hW : (rest.map fun v => v.category).sum ≤ 8) (hdg : decode cc pc = .ok (.invokevirtual index, 3)) :
    va_Run p l e R s m args below meth c H locs cells slots 0 0 (F0 m pc ls st) rest (Qc (Value.ref a :: As).toArray) (fr G) := by
  subst ha
  exact va_runV CF hM (cwV n CF.2.2.2.2 hG hw hrc hrs ⟨hy, hd⟩ hR.1) (r_preV hK hH k hk he hc) rfl hn hsz hst (lv_room hW) hdg hR.2
theorem r_runS {Qc : Array Value → State → Outcome → State → Prop} (CF : CallFix p m c cc nL s args Ts own) (hK : KK G s) (hH : Hp G σ H) (hM : Met l y ws rm (PP G As σ) Qc 0 0 (fr G)) (hG : GoodIn Ts (va_wsS own index y ws)) (hw : ws = Cond.code y bytes maxL ret :: ws') (hrc : rm.cells = 0) (hrs : rm.slots = 0) (hd : hDesc y n) (hR : hRoom rm R maxL cells slots)
    (hn : As.length = n) (hsz : ls.size = nL) (hst : st = As.reverse ++ rest) (hW : (rest.map fun v => v.category).sum ≤ 8) (hdg : decode cc pc = .ok (.invokestatic index, 3)) :
    va_Run p l e R s m args below meth c H locs cells slots 0 0 (F0 m pc ls st) rest (Qc As.toArray) (fr G) :=
  va_runS CF hM (va_cwS n CF.2.2.2.2 hG hw hrc hrs hd hR.1) (r_preS hK hH) rfl hn hsz hst (lv_room hW) hdg hR.2
theorem r_runN {host : String} {Qc : Array Value → State → Outcome → State → Prop} (CF : CallFix p m c cc nL s args Ts own) (hK : KK G s) (hH : Hp G σ H) (hM : Met l y ws rm (PP G As σ) Qc 0 0 (fr G)) (hG : GoodIn Ts ws) (hw : ws = Cond.code y bytes maxL ret :: ws') (hrc : rm.cells = 0) (hrs : rm.slots = 0) (hl : va_Nw (.methodLinkNest own index y host) s) (hini : (Cond.initialized y.cls).before args s = true) (hstat : (Cond.static y).before args s = true) (hd : hDesc y n) (hR : hRoom rm R maxL cells slots)
    (hn : As.length = n) (hsz : ls.size = nL) (hst : st = As.reverse ++ rest) (hW : (rest.map fun v => v.category).sum ≤ 8) (hdg : decode cc pc = .ok (.invokestatic index, 3)) :
    va_Run p l e R s m args below meth c H locs cells slots 0 0 (F0 m pc ls st) rest (Qc As.toArray) (fr G) :=
  va_runSN CF hM ⟨va_cnB n CF.2.2.2.2 hG hw hrc hrs hl hini hd hR.1, hstat, trivial⟩ (r_preS hK hH) rfl hn hsz hst (lv_room hW) hdg hR.2
theorem r_calli {post : Int32 → Sg → Prop} {av : Array Value} (hS : va_S (fr G) s.heap H locs) (hr : va_Run p l e R s m args below meth c H locs cells slots 0 0 (F0 m pc ls st) rest (QI G post av) (fr G))
    (kk : ∀ (r : Int32) (σ1 : Sg) (H1 : Heap) (locs1 : List Loc), post r σ1 → Hp G σ1 H1 → va_S (fr G) s.heap H1 locs1 → W p l e R s m args below meth c H1 locs1 cells slots Q (F0 m (pc + 3) ls (.int r :: rest))) : W p l e R s m args below meth c H locs cells slots Q (F0 m pc ls st) :=
  va_calli hr hS (fun _ _ h => h) (fun _ h => h) (fun r u t H1 locs1 ht _ hp hB _ _ hS1 => kk r u H1 locs1 hp (by rw [← ht]; exact hB) hS1)
theorem r_callv {post : Sg → Prop} {av : Array Value} (hS : va_S (fr G) s.heap H locs) (hr : va_Run p l e R s m args below meth c H locs cells slots 0 0 (F0 m pc ls st) rest (QV G post av) (fr G))
    (kk : ∀ (σ1 : Sg) (H1 : Heap) (locs1 : List Loc), post σ1 → Hp G σ1 H1 → va_S (fr G) s.heap H1 locs1 → W p l e R s m args below meth c H1 locs1 cells slots Q (F0 m (pc + 3) ls rest)) : W p l e R s m args below meth c H locs cells slots Q (F0 m pc ls st) :=
  va_callv hr hS (fun _ _ h => h) (fun _ h => h) (fun u t H1 locs1 ht _ hp hB _ _ hS1 => kk u H1 locs1 hp (by rw [← ht]; exact hB) hS1)
theorem r_callq {post : Option Nat → Sg → Prop} {av : Array Value} (hS : va_S (fr G) s.heap H locs) (hr : va_Run p l e R s m args below meth c H locs cells slots 0 0 (F0 m pc ls st) rest (QO G post av) (fr G))
    (kk : ∀ (r : Option Nat) (σ1 : Sg) (H1 : Heap) (locs1 : List Loc), post r σ1 → Hp G σ1 H1 → va_S (fr G) s.heap H1 locs1 → W p l e R s m args below meth c H1 locs1 cells slots Q (F0 m (pc + 3) ls (va_rf r :: rest))) : W p l e R s m args below meth c H locs cells slots Q (F0 m pc ls st) :=
  va_callq hr hS (fun _ _ h => h) (fun _ h => h) (fun r u t H1 locs1 ht _ hp hB _ _ hS1 => kk r u H1 locs1 hp (by rw [← ht]; exact hB) hS1)
theorem r_cR {v : Int32} {σ2 : Sg} {av : Array Value} (hS : va_S (fr G) s.heap H locs) (hr : va_Run p l e R s m args below meth c H locs cells slots 0 0 (F0 m pc ls st) rest (QI G (RV v σ2) av) (fr G))
    (kk : ∀ (H1 : Heap) (locs1 : List Loc), Hp G σ2 H1 → va_S (fr G) s.heap H1 locs1 → W p l e R s m args below meth c H1 locs1 cells slots Q (F0 m (pc + 3) ls (.int v :: rest))) : W p l e R s m args below meth c H locs cells slots Q (F0 m pc ls st) :=
  r_calli hS hr (fun r σ1 H1 locs1 hp hH1 hS1 => by obtain ⟨rfl, rfl⟩ := hp; exact kk H1 locs1 hH1 hS1)
theorem r_cV {σ2 : Sg} {av : Array Value} (hS : va_S (fr G) s.heap H locs) (hr : va_Run p l e R s m args below meth c H locs cells slots 0 0 (F0 m pc ls st) rest (QV G (VV σ2) av) (fr G))
    (kk : ∀ (H1 : Heap) (locs1 : List Loc), Hp G σ2 H1 → va_S (fr G) s.heap H1 locs1 → W p l e R s m args below meth c H1 locs1 cells slots Q (F0 m (pc + 3) ls rest)) : W p l e R s m args below meth c H locs cells slots Q (F0 m pc ls st) :=
  r_callv hS hr (fun σ1 H1 locs1 hp hH1 hS1 => by cases hp; exact kk H1 locs1 hH1 hS1)
theorem r_ifeqB {x : Bool} {off : Int} {tgt : Nat} (hexec : p.tables.exec = Jvm.exec) (hb : c.code = cc) (hdg : decode cc pc = .ok (.ifCond .eq off, 3)) (ht : (pc : Int) + off = (tgt : Int))
    (kt : x = false → W p l e R s m args below meth c H locs cells slots Q (F0 m tgt ls rest)) (kf : x = true → W p l e R s m args below meth c H locs cells slots Q (F0 m (pc + 3) ls rest)) : W p l e R s m args below meth c H locs cells slots Q (F0 m pc ls (.int (b2i x) :: rest)) :=
  lv_if_eq hexec hb hdg ht (fun h => kt (b2i_0.mp h)) (fun h => kf (b2i_1.mp h))
theorem r_ifneB {x : Bool} {off : Int} {tgt : Nat} (hexec : p.tables.exec = Jvm.exec) (hb : c.code = cc) (hdg : decode cc pc = .ok (.ifCond .ne off, 3)) (ht : (pc : Int) + off = (tgt : Int))
    (kt : x = true → W p l e R s m args below meth c H locs cells slots Q (F0 m tgt ls rest)) (kf : x = false → W p l e R s m args below meth c H locs cells slots Q (F0 m (pc + 3) ls rest)) : W p l e R s m args below meth c H locs cells slots Q (F0 m pc ls (.int (b2i x) :: rest)) :=
  lv_if_ne hexec hb hdg ht (fun h => kt (b2i_1.mp h)) (fun h => kf (b2i_0.mp h))
theorem r_top {x y : Int32} (h : x = y) (k : W p l e R s m args below meth c H locs cells slots Q (F0 m pc ls (.int y :: rest))) : W p l e R s m args below meth c H locs cells slots Q (F0 m pc ls (.int x :: rest)) := by rw [h]; exact k
/-- a method's beginning -/
theorem r_start {Qc : Array Value → State → Outcome → State → Prop} {av : List Value} (hy : plainName y.cls = true) (hw : ws = Cond.code y cc maxL ret :: ws') (hav : (lg_sl av).length ≤ maxL)
    (body : ∀ (p : Program) (e : Env) (s : State) (m : MethodId) (below : List Frame) (meth : Method) (c : Code) (ls : Array Slot), CallFix p m c cc maxL s av.toArray ws y.cls → meth.sig.returnType = ret → meth.locks = false → KK G s → Hp G σ s.heap → va_S (fr G) s.heap s.heap [] → lv_has ls maxL (lv_args 0 av) →
      W p l e rm s m av.toArray below meth c s.heap [] 0 0 (MQ below Qc av.toArray s 0 0 (fr G)) (F0 m 0 ls [])) : Met l y ws rm (PP G av σ) Qc 0 0 (fr G) := by
  refine Met.ofW (cc := cc) (maxL := maxL) (ret := ret) hy hw ?_
  intro p e s m args below meth c s₁ B hml hv
  obtain ⟨rfl, hH, hK⟩ := hv
  have hl := lv_entry av (n := maxL) hav
  rw [lg_entry_eq]
  exact body p e s m below meth c _ ⟨B.exec, B.bytes, hml, findClass_of_methodNamed B.named, atoms_spec (ws := ws) B.pre⟩ B.returns B.notSynchronized hK hH va_S.rf hl
/-- a JDK method's beginning (no row of the model stands in its place) -/
theorem r_startF {Qc : Array Value → State → Outcome → State → Prop} {av : List Value} (hy : plainFor y = true) (hw : ws = Cond.code y cc maxL ret :: ws') (hav : (lg_sl av).length ≤ maxL)
    (body : ∀ (p : Program) (e : Env) (s : State) (m : MethodId) (below : List Frame) (meth : Method) (c : Code) (ls : Array Slot), CallFix p m c cc maxL s av.toArray ws y.cls → meth.sig.returnType = ret → meth.locks = false → KK G s → Hp G σ s.heap → va_S (fr G) s.heap s.heap [] → lv_has ls maxL (lv_args 0 av) →
      W p l e rm s m av.toArray below meth c s.heap [] 0 0 (MQ below Qc av.toArray s 0 0 (fr G)) (F0 m 0 ls [])) : Met l y ws rm (PP G av σ) Qc 0 0 (fr G) := by
  refine MetFree.of_bodySF (code := cc) (maxLocals := maxL) (ret := ret) hy ?_ ?_
  · intro args s m h hn
    obtain ⟨meth, c, h1, h2, h3, h4, h5, h6, -, -⟩ := Cond.code_spec hn (atoms_spec (ws := ws) h _ (by rw [hw]; exact List.mem_cons_self))
    exact ⟨meth, c, h1, h2, h3, h4, h5, h6⟩
  · intro p e s m args below meth c s₁ B hml hv _
    obtain ⟨rfl, hH, hK⟩ := hv
    have hh0 : s₁.heap = s.heap := by rw [B.state]; rfl
    have hl := lv_entry av (n := maxL) hav
    have K := body p e s m below meth c _ ⟨B.exec, B.bytes, hml, findClass_of_methodNamed B.named, atoms_spec (ws := ws) B.pre⟩ B.returns B.notSynchronized hK hH va_S.rf hl
    rw [← lg_entry_eq] at K
    obtain ⟨t, a1, o, b1, b2, b3⟩ := K s₁ hh0 (Stand.of_body B)
    exact ⟨t, o, a1, b1, b2, ⟨b3.1, b3.2⟩⟩
end FRAME
end
section
def isW (v a b : Int32) : Bool := !decide (v < a) && !decide (b < v)
def quo (a b : Int32) : Int32 := if b ≤ 0 then 0 else a / b

set_option maxRecDepth 100000 in
set_option maxHeartbeats 4000000 in
theorem c_X8_isWithin (l : Launch) (G : Gm) (σ : Sg) (v a b : Int32) : Met l yX8_isWithin wsX8_isWithin (rmO 0 0) (PP G [.int v, .int a, .int b] σ) (QI G (RV (b2i (isW v a b)) σ)) 0 0 (fr G) := by
  refine r_start (cc := cX8_isWithin) (maxL := 3) (ret := (some .boolean)) (by decide) rfl (Nat.le_of_ble_eq_true rfl) ?_
  intro pz ez sz mz below meth cz ls CF hr hlk hK hH hS hl
  have CF : CallFix pz mz cz cX8_isWithin 3 sz (List.toArray [.int v, .int a, .int b]) wsX8_isWithin RX8 := CF
  have hx := CF.1
  have hb := CF.2.1
  have hown := CF.2.2.2.1
  have hts := CF.2.2.2.2
  have hl : lv_has ls 3 [(0, .int v), (1, .int a), (2, .int b)] := hl
  refine lv_iload_n hx hb dX8_isWithin_0 rfl (lv_at hl 0 rfl) ?_
  refine lv_iload_n hx hb dX8_isWithin_1 rfl (lv_at hl 1 rfl) ?_
  refine lv_icmp_lt (tgt := 14) hx hb dX8_isWithin_2 (by decide) (fun c2 => ?_) (fun c2 => ?_)
  · refine lv_iconst (v := 0) hx hb dX8_isWithin_14 (by decide) ?_
    exact r_zret CF hr hlk hH hS rfl dX8_isWithin_15 ⟨by simp [isW, b2i, c2], rfl⟩
  · refine lv_iload_n hx hb dX8_isWithin_5 rfl (lv_at hl 0 rfl) ?_
    refine lv_iload_n hx hb dX8_isWithin_6 rfl (lv_at hl 2 rfl) ?_
    refine lv_icmp_gt (tgt := 14) hx hb dX8_isWithin_7 (by decide) (fun c7 => ?_) (fun c7 => ?_)
    · refine lv_iconst (v := 0) hx hb dX8_isWithin_14 (by decide) ?_
      exact r_zret CF hr hlk hH hS rfl dX8_isWithin_15 ⟨by simp [isW, b2i, c2, c7], rfl⟩
    · refine lv_iconst (v := 1) hx hb dX8_isWithin_10 (by decide) ?_
      refine lv_goto (tgt := 15) hx hb dX8_isWithin_11 (by decide) ?_
      exact r_zret CF hr hlk hH hS rfl dX8_isWithin_15 ⟨by simp [isW, b2i, c2, c7], rfl⟩

set_option maxRecDepth 100000 in
set_option maxHeartbeats 4000000 in
theorem c_X8_quotient (l : Launch) (G : Gm) (σ : Sg) (a b : Int32) : Met l yX8_quotient wsX8_quotient (rmO 0 0) (PP G [.int a, .int b] σ) (QI G (RV (quo a b) σ)) 0 0 (fr G) := by
  refine r_start (cc := cX8_quotient) (maxL := 2) (ret := (some .int)) (by decide) rfl (Nat.le_of_ble_eq_true rfl) ?_
  intro pz ez sz mz below meth cz ls CF hr hlk hK hH hS hl
  have CF : CallFix pz mz cz cX8_quotient 2 sz (List.toArray [.int a, .int b]) wsX8_quotient RX8 := CF
  have hx := CF.1
  have hb := CF.2.1
  have hown := CF.2.2.2.1
  have hts := CF.2.2.2.2
  have hl : lv_has ls 2 [(0, .int a), (1, .int b)] := hl
  refine lv_iload_n hx hb dX8_quotient_0 rfl (lv_at hl 1 rfl) ?_
  refine lv_if_le (tgt := 10) hx hb dX8_quotient_1 (by decide) (fun c1 => ?_) (fun c1 => ?_)
  · refine lv_iconst (v := 0) hx hb dX8_quotient_10 (by decide) ?_
    exact r_iret CF hr hlk hH hS dX8_quotient_11 ⟨by simp [quo, c1], rfl⟩
  · refine lv_iload_n hx hb dX8_quotient_4 rfl (lv_at hl 0 rfl) ?_
    refine lv_iload_n hx hb dX8_quotient_5 rfl (lv_at hl 1 rfl) ?_
    refine lv_idiv hx hb dX8_quotient_6 (fun h => c1 (by rw [h]; decide)) ?_
    refine lv_goto (tgt := 11) hx hb dX8_quotient_7 (by decide) ?_
    exact r_iret CF hr hlk hH hS dX8_quotient_11 ⟨by simp [quo, c1], rfl⟩

def isC (σ : Sg) (r c : Int32) : Bool := !decide (r < 0) && !decide (σ 21 0 ≤ r) && !decide (c < 0) && !decide (σ 21 1 ≤ c)

set_option maxRecDepth 100000 in
set_option maxHeartbeats 4000000 in
theorem c_X7_contains (l : Launch) (G : Gm) (σ : Sg) (x y : Int32) : Met l yX7_contains wsX7_contains (rmO 0 0) (PP G [.ref (G.2.1 21), .int x, .int y] σ) (QI G (RV (b2i (isC σ x y)) σ)) 0 0 (fr G) := by
  refine r_start (cc := cX7_contains) (maxL := 3) (ret := (some .boolean)) (by decide) rfl (Nat.le_of_ble_eq_true rfl) ?_
  intro pz ez sz mz below meth cz ls CF hr hlk hK hH hS hl
  have CF : CallFix pz mz cz cX7_contains 3 sz (List.toArray [.ref (G.2.1 21), .int x, .int y]) wsX7_contains RX7 := CF
  have hx := CF.1
  have hb := CF.2.1
  have hown := CF.2.2.2.1
  have hts := CF.2.2.2.2
  have hl : lv_has ls 3 [(0, .ref (G.2.1 21)), (1, .int x), (2, .int y)] := hl
  have K1 := hts _ (List.mem_of_getElem? (i := 1) rfl)
  have K2 := hts _ (List.mem_of_getElem? (i := 2) rfl)
  have JX7 : ∀ w ∈ wsX70, w ∈ wsX7_contains := in_r _ [3, 4, 5] (by decide +kernel)
  refine lv_iload_n hx hb dX7_contains_0 rfl (lv_at hl 1 rfl) ?_
  refine lv_if_lt (tgt := 28) hx hb dX7_contains_1 (by decide) (fun c1 => ?_) (fun c1 => ?_)
  · refine lv_iconst (v := 0) hx hb dX7_contains_28 (by decide) ?_
    exact r_zret CF hr hlk hH hS rfl dX7_contains_29 ⟨by simp [isC, b2i, c1], rfl⟩
  · refine lv_iload_n hx hb dX7_contains_4 rfl (lv_at hl 1 rfl) ?_
    refine lv_aload_n hx hb dX7_contains_5 rfl (lv_at hl 0 rfl) ?_
    refine r_get CF hK hH 21 (Nat.le_of_ble_eq_true rfl) rfl rfl JX7 0 (by decide) K1 rfl dX7_contains_6 ?_
    refine lv_icmp_ge (tgt := 28) hx hb dX7_contains_9 (by decide) (fun c9 => ?_) (fun c9 => ?_)
    · refine lv_iconst (v := 0) hx hb dX7_contains_28 (by decide) ?_
      exact r_zret CF hr hlk hH hS rfl dX7_contains_29 ⟨by simp [isC, b2i, c1, c9], rfl⟩
    · refine lv_iload_n hx hb dX7_contains_12 rfl (lv_at hl 2 rfl) ?_
      refine lv_if_lt (tgt := 28) hx hb dX7_contains_13 (by decide) (fun c13 => ?_) (fun c13 => ?_)
      · refine lv_iconst (v := 0) hx hb dX7_contains_28 (by decide) ?_
        exact r_zret CF hr hlk hH hS rfl dX7_contains_29 ⟨by simp [isC, b2i, c1, c9, c13], rfl⟩
      · refine lv_iload_n hx hb dX7_contains_16 rfl (lv_at hl 2 rfl) ?_
        refine lv_aload_n hx hb dX7_contains_17 rfl (lv_at hl 0 rfl) ?_
        refine r_get CF hK hH 21 (Nat.le_of_ble_eq_true rfl) rfl rfl JX7 1 (by decide) K2 rfl dX7_contains_18 ?_
        refine lv_icmp_ge (tgt := 28) hx hb dX7_contains_21 (by decide) (fun c21 => ?_) (fun c21 => ?_)
        · refine lv_iconst (v := 0) hx hb dX7_contains_28 (by decide) ?_
          exact r_zret CF hr hlk hH hS rfl dX7_contains_29 ⟨by simp [isC, b2i, c1, c9, c13, c21], rfl⟩
        · refine lv_iconst (v := 1) hx hb dX7_contains_24 (by decide) ?_
          refine lv_goto (tgt := 29) hx hb dX7_contains_25 (by decide) ?_
          exact r_zret CF hr hlk hH hS rfl dX7_contains_29 ⟨by simp [isC, b2i, c1, c9, c13, c21], rfl⟩
end
section
/-! ===== numbers: counts, distances, the line of sight, what a photo sees ===== -/
def cnt (p : Nat → Bool) : Nat → Nat
  | 0 => 0
  | n + 1 => cnt p n + (if p n then 1 else 0)
theorem cnt_t {p : Nat → Bool} {i : Nat} (h : p i = true) : cnt p (i + 1) = cnt p i + 1 := by simp [cnt, h]
theorem cnt_f {p : Nat → Bool} {i : Nat} (h : p i = false) : cnt p (i + 1) = cnt p i := by simp [cnt, h]
theorem cnt_le (p : Nat → Bool) (n : Nat) : cnt p n ≤ n := by
  induction n with
  | zero => simp [cnt]
  | succ n ih => simp only [cnt]; split <;> omega
theorem cnt_mono (p : Nat → Bool) {a b : Nat} (h : a ≤ b) : cnt p a ≤ cnt p b := by
  induction b with
  | zero => have : a = 0 := by omega
            subst this; exact Nat.le_refl _
  | succ b ih =>
    by_cases hb : a = b + 1
    · subst hb; exact Nat.le_refl _
    · exact Nat.le_trans (ih (by omega)) (by simp only [cnt]; omega)
theorem cnt_pos {p : Nat → Bool} {i n : Nat} (h : p i = true) (hi : i < n) : 0 < cnt p n := by
  have h1 := cnt_t (p := p) h
  have h2 := cnt_mono p (show i + 1 ≤ n by omega)
  omega
theorem cnt_congr {p q : Nat → Bool} {n : Nat} (h : ∀ i, i < n → p i = q i) : cnt p n = cnt q n := by
  induction n with
  | zero => rfl
  | succ n ih => simp only [cnt]; rw [ih (fun i hi => h i (by omega)), h n (by omega)]
abbrev Cm : Type := Int32 × Int32 × Int32 × Int32
abbrev S4 : Type := Nat × Nat × Nat × Nat
def ab (x : Int32) : Int32 := if x < 0 then -x else x
theorem ab_m (x : Int32) : (if 0 ≤ x then x else 0 - x) = ab x := by grind [ab]
def ad1 (a b : Nat) : Nat := (a - b) + (b - a)
theorem sub_lt {a b : Nat} (ha : a < 2 ^ 20) (hb : b < 2 ^ 20) : nI a - nI b < 0 ↔ a < b := by
  rw [Int32.lt_iff_toInt_lt, pk_sub_toInt (by omega) (by omega)]
  show (a : Int) - b < 0 ↔ _
  omega
theorem neg_sub (a b : Nat) : -(nI a - nI b) = nI b - nI a := by grind
theorem ab_nI {a b : Nat} (ha : a < 2 ^ 20) (hb : b < 2 ^ 20) : ab (nI a - nI b) = nI (ad1 a b) := by
  unfold ab ad1
  by_cases h : a < b
  · rw [if_pos ((sub_lt ha hb).mpr h), neg_sub, pk_sub (by omega)]
    congr 1; omega
  · rw [if_neg (fun q => h ((sub_lt ha hb).mp q)), pk_sub (by omega)]
    congr 1; omega
theorem ad1_s (a b : Nat) : ad1 a b = ad1 b a := by unfold ad1; omega
def mx (a b : Nat) : Nat := if a < b then b else a
theorem mx_nI {a b : Nat} (ha : a < 2 ^ 31) (hb : b < 2 ^ 31) : (if nI a < nI b then nI b else nI a) = nI (mx a b) := by
  unfold mx
  by_cases h : a < b
  · rw [if_pos ((nI_ltI ha hb).mpr h), if_pos h]
  · rw [if_neg (fun q => h ((nI_ltI ha hb).mp q)), if_neg h]
/-- the step of the line that goes from x to y in n steps -/
def qz (k n x y : Nat) : Nat := ((2 * (k : Int) * ((y : Int) - x) + n) / (2 * n) + x).toNat
theorem qz_rng {k n x y : Nat} (hk : 1 ≤ k) (hkn : k < n) (hd : ad1 y x ≤ n) : (x ≤ qz k n x y ∨ y ≤ qz k n x y) ∧ (qz k n x y ≤ x ∨ qz k n x y ≤ y) ∧ (2 * (k : Int) * ((y : Int) - x) + n) / (2 * n) + x = (qz k n x y : Int) := by
  unfold ad1 at hd
  have hn : (0 : Int) < 2 * n := by omega
  by_cases hxy : x ≤ y
  · -- forward
    have h0 : 0 ≤ 2 * (k : Int) * ((y : Int) - x) + n := by
      have : 0 ≤ (k : Int) * ((y : Int) - x) := Int.mul_nonneg (by omega) (by omega)
      grind
    have h1 : 0 ≤ (2 * (k : Int) * ((y : Int) - x) + n) / (2 * n) := Int.ediv_nonneg h0 (by omega)
    have h2 : (2 * (k : Int) * ((y : Int) - x) + n) / (2 * n) < (y : Int) - x + 1 := by
      apply Int.ediv_lt_of_lt_mul hn
      have : (k : Int) * ((y : Int) - x) ≤ n * ((y : Int) - x) := Int.mul_le_mul_of_nonneg_right (by omega) (by omega)
      grind
    have e : (2 * (k : Int) * ((y : Int) - x) + n) / (2 * n) + x = (qz k n x y : Int) := by
      unfold qz; rw [Int.toNat_of_nonneg (by omega)]
    refine ⟨by omega, by omega, e⟩
  · have h1 : (y : Int) - x ≤ (2 * (k : Int) * ((y : Int) - x) + n) / (2 * n) := by
      apply Int.le_ediv_of_mul_le hn
      have : (n : Int) * ((x : Int) - y) ≥ k * ((x : Int) - y) := Int.mul_le_mul_of_nonneg_right (by omega) (by omega)
      grind
    have h2 : (2 * (k : Int) * ((y : Int) - x) + n) / (2 * n) < 1 := by
      apply Int.ediv_lt_of_lt_mul hn
      have : 0 ≤ (k : Int) * ((x : Int) - y) := Int.mul_nonneg (by omega) (by omega)
      grind
    have e : (2 * (k : Int) * ((y : Int) - x) + n) / (2 * n) + x = (qz k n x y : Int) := by
      unfold qz; rw [Int.toNat_of_nonneg (by omega)]
    refine ⟨by omega, by omega, e⟩
/-! division towards zero, as the machine does it, and downwards -/
def sm (z : Int) : Prop := -1000000 ≤ z ∧ z ≤ 1000000
theorem sm_mn {z : Int} (h : sm z) : Int32.minValue.toInt ≤ z ∧ z ≤ Int32.maxValue.toInt := by
  have h1 : Int32.minValue.toInt = -2147483648 := by decide
  have h2 : Int32.maxValue.toInt = 2147483647 := by decide
  unfold sm at h
  omega
theorem oi_toInt {z : Int} (h : sm z) : (Int32.ofInt z).toInt = z := Int32.toInt_ofInt_of_le (by unfold sm at h; omega) (by unfold sm at h; omega)
theorem oi_lt {a b : Int} (ha : sm a) (hb : sm b) : Int32.ofInt a < Int32.ofInt b ↔ a < b := by rw [Int32.lt_iff_toInt_lt, oi_toInt ha, oi_toInt hb]
theorem oi_le {a b : Int} (ha : sm a) (hb : sm b) : Int32.ofInt a ≤ Int32.ofInt b ↔ a ≤ b := by rw [Int32.le_iff_toInt_le, oi_toInt ha, oi_toInt hb]
theorem oi_eq {a b : Int} (ha : sm a) (hb : sm b) : Int32.ofInt a = Int32.ofInt b ↔ a = b := by
  constructor
  · intro h
    have := congrArg Int32.toInt h
    rwa [oi_toInt ha, oi_toInt hb] at this
  · intro h; rw [h]
theorem oi_nI (n : Nat) : nI n = Int32.ofInt (n : Int) := by
  first | rfl | exact (Int32.ofInt_eq_ofNat).symm | exact Int32.ofInt_natCast.symm
theorem oi_div {a b : Int} (ha : sm a) (hb : sm b) : Int32.ofInt a / Int32.ofInt b = Int32.ofInt (a.tdiv b) := (Int32.ofInt_tdiv (sm_mn ha).1 (sm_mn ha).2 (sm_mn hb).1 (sm_mn hb).2).symm
/-- Math.floorDiv -/
def fdI (x y : Int32) : Int32 := if 0 ≤ (x ^^^ y) then x / y else if x / y * y = x then x / y else x / y - 1
theorem xor_pos (x y : Int32) (hy : 0 ≤ y) : 0 ≤ (x ^^^ y) ↔ 0 ≤ x := by
  have key : ∀ z : Int32, 0 ≤ z ↔ z.toBitVec.msb = false := by
    intro z
    rw [Int32.le_iff_toInt_le]
    show (0 : Int) ≤ z.toBitVec.toInt ↔ _
    rw [BitVec.msb_eq_toInt]
    simp
  rw [key, key, Int32.toBitVec_xor, BitVec.msb_xor, (key y).mp hy]
  simp
theorem fl_facts (z : Int) {d : Nat} (hd : 0 < d) : ∃ e r t : Int, z / (d : Int) = e ∧ t = e * d ∧ t + r = z ∧ 0 ≤ r ∧ r < d ∧ ((0 ≤ z ∨ (d : Int) ∣ z) → z.tdiv d = e ∧ (r = 0 ∨ 0 ≤ z)) ∧ (¬ (0 ≤ z ∨ (d : Int) ∣ z) → z.tdiv d = e + 1 ∧ r ≠ 0 ∧ z < 0) := by
  refine ⟨z / d, z % d, z / d * d, rfl, rfl, by have := Int.emod_add_mul_ediv z d; grind, Int.emod_nonneg z (by omega), Int.emod_lt_of_pos z (by omega), ?_, ?_⟩
  · intro h
    refine ⟨by rw [Int.tdiv_eq_ediv, if_pos h]; omega, ?_⟩
    rcases h with h | h
    · exact Or.inr h
    · exact Or.inl (Int.emod_eq_zero_of_dvd h)
  · intro h
    refine ⟨by rw [Int.tdiv_eq_ediv, if_neg h, Int.sign_eq_one_of_pos (by omega)], fun q => h (Or.inr (Int.dvd_of_emod_eq_zero q)), by omega⟩
theorem fd_ok {z : Int} {d : Nat} (hz : -100000 ≤ z ∧ z ≤ 100000) (hd : 0 < d) (hd2 : d ≤ 1000) : fdI (Int32.ofInt z) (nI d) = Int32.ofInt (z / d) := by
  obtain ⟨e, r, t, he, ht, hr, h0, h1, hA, hB⟩ := fl_facts z hd
  have hsz : sm z := by unfold sm; omega
  have hsd : sm (d : Int) := by unfold sm; omega
  have hst : sm t := by unfold sm; omega
  have hst2 : sm (t + d) := by unfold sm; omega
  have hpos : (0 : Int32) ≤ Int32.ofInt z ↔ 0 ≤ z := oi_le (a := 0) (b := z) (by unfold sm; omega) hsz
  have hdp : (0 : Int32) ≤ Int32.ofInt (d : Int) := (oi_le (a := 0) (b := (d : Int)) (by unfold sm; omega) hsd).mpr (by omega)
  unfold fdI
  have hxp := (xor_pos (Int32.ofInt z) _ hdp).trans hpos
  rw [oi_nI, oi_div hsz hsd, ← Int32.ofInt_mul, he]
  by_cases hc : 0 ≤ z ∨ (d : Int) ∣ z
  · obtain ⟨h2, h3⟩ := hA hc
    rw [h2, ← ht]
    by_cases hp : 0 ≤ z
    · rw [if_pos (hxp.mpr hp)]
    · rw [if_neg (fun q => hp (hxp.mp q)), if_pos ((oi_eq hst hsz).mpr (by omega))]
  · obtain ⟨h2, h3, h4⟩ := hB hc
    have e2 : (e + 1) * (d : Int) = t + d := by grind
    rw [h2, e2, if_neg (fun q => by have := hxp.mp q; omega), if_neg (fun q => by have := (oi_eq hst2 hsz).mp q; omega), Int32.ofInt_add]
    grind
/-- the reference's own rounding down -/
def nrI (u w : Int32) : Int32 := if u < u / w * w then u / w - 1 else u / w
theorem nr_ok {z : Int} {d : Nat} (hz : -100000 ≤ z ∧ z ≤ 100000) (hd : 0 < d) (hd2 : d ≤ 1000) : nrI (Int32.ofInt z) (nI d) = Int32.ofInt (z / d) := by
  obtain ⟨e, r, t, he, ht, hr, h0, h1, hA, hB⟩ := fl_facts z hd
  have hsz : sm z := by unfold sm; omega
  have hsd : sm (d : Int) := by unfold sm; omega
  have hst : sm t := by unfold sm; omega
  have hst2 : sm (t + d) := by unfold sm; omega
  unfold nrI
  rw [oi_nI, oi_div hsz hsd, ← Int32.ofInt_mul, he]
  by_cases hc : 0 ≤ z ∨ (d : Int) ∣ z
  · obtain ⟨h2, h3⟩ := hA hc
    rw [h2, ← ht, if_neg (fun q => by have := (oi_lt hsz hst).mp q; omega)]
  · obtain ⟨h2, h3, h4⟩ := hB hc
    have e2 : (e + 1) * (d : Int) = t + d := by grind
    rw [h2, e2, if_pos ((oi_lt hsz hst2).mpr (by omega)), Int32.ofInt_add]
    grind
theorem ln_arg (k n x y : Nat) : (2 : Int32) * nI k * (nI y - nI x) + nI n = Int32.ofInt (2 * (k : Int) * ((y : Int) - x) + n) := by
  rw [oi_nI, oi_nI, oi_nI, oi_nI, show (2 : Int32) = Int32.ofInt 2 from rfl, ← Int32.ofInt_mul, ← Int32.ofInt_sub, ← Int32.ofInt_mul, ← Int32.ofInt_add]
theorem ln_rng {k n x y : Nat} (hkn : k < n) (hn : n ≤ 16) (hx : x < 16) (hy : y < 16) : -100000 ≤ 2 * (k : Int) * ((y : Int) - x) + n ∧ 2 * (k : Int) * ((y : Int) - x) + n ≤ 100000 := by
  have h1 : (k : Int) * ((y : Int) - x) ≤ 16 * 16 := by
    have := Int.mul_le_mul_of_nonneg_left (c := (k : Int)) (show (y : Int) - x ≤ 16 by omega) (by omega)
    omega
  have h2 : -(16 * 16) ≤ (k : Int) * ((y : Int) - x) := by
    have := Int.mul_le_mul_of_nonneg_left (c := (k : Int)) (show (-16 : Int) ≤ (y : Int) - x by omega) (by omega)
    omega
  have e : 2 * (k : Int) * ((y : Int) - x) = 2 * ((k : Int) * ((y : Int) - x)) := by grind
  omega
theorem ln_end {k n x y : Nat} (hk : 1 ≤ k) (hkn : k < n) (hd : ad1 y x ≤ n) : nI x + Int32.ofInt ((2 * (k : Int) * ((y : Int) - x) + n) / ((2 * n : Nat) : Int)) = nI (qz k n x y) := by
  have h := (qz_rng hk hkn hd).2.2
  rw [oi_nI, ← Int32.ofInt_add, oi_nI]
  congr 1
  have e : ((2 * n : Nat) : Int) = 2 * n := by omega
  rw [e]; omega
theorem ln_c {k n x y : Nat} (hk : 1 ≤ k) (hkn : k < n) (hn : n ≤ 16) (hx : x < 16) (hy : y < 16) (hd : ad1 y x ≤ n) : nI x + fdI ((2 : Int32) * nI k * (nI y - nI x) + nI n) ((2 : Int32) * nI n) = nI (qz k n x y) := by
  rw [ln_arg, show (2 : Int32) * nI n = nI (2 * n) from (pk_mul 2 n), fd_ok (ln_rng hkn hn hx hy) (by omega) (by omega)]
  exact ln_end hk hkn hd
theorem ln_m {k n x y : Nat} (hk : 1 ≤ k) (hkn : k < n) (hn : n ≤ 16) (hx : x < 16) (hy : y < 16) (hd : ad1 y x ≤ n) : nI x + nrI ((2 : Int32) * (nI k * (nI y - nI x)) + nI n) ((2 : Int32) * nI n) = nI (qz k n x y) := by
  rw [show (2 : Int32) * (nI k * (nI y - nI x)) + nI n = (2 : Int32) * nI k * (nI y - nI x) + nI n by grind, ln_arg, show (2 : Int32) * nI n = nI (2 * n) from (pk_mul 2 n), nr_ok (ln_rng hkn hn hx hy) (by omega) (by omega)]
  exact ln_end hk hkn hd
theorem qz_lt {k n x y B : Nat} (hk : 1 ≤ k) (hkn : k < n) (hd : ad1 y x ≤ n) (hx : x < B) (hy : y < B) : qz k n x y < B := by
  have := (qz_rng hk hkn hd).2.1
  omega
def nnF (pr pc r c : Nat) : Nat := mx (ad1 r pr) (ad1 c pc)
theorem nnF_1 (pr pc r c : Nat) : ad1 r pr ≤ nnF pr pc r c := by unfold nnF mx; split <;> omega
theorem nnF_2 (pr pc r c : Nat) : ad1 c pc ≤ nnF pr pc r c := by unfold nnF mx; split <;> omega
theorem nnF_le {pr pc r c : Nat} (h1 : pr < 10) (h2 : pc < 16) (h3 : r < 10) (h4 : c < 16) : nnF pr pc r c ≤ 15 := by unfold nnF mx ad1; split <;> omega
def blk (g : Nat → Int32) (alt h : Int32) (pr pc r c n k : Nat) : Bool := decide (1 ≤ k) && !decide (g (16 * qz k n pr r + qz k n pc c) * nI n ≤ alt * nI n + (h - alt) * nI k)
def lfr (g : Nat → Int32) (alt h : Int32) (pr pc r c : Nat) : Bool := decide (cnt (blk g alt h pr pc r c (nnF pr pc r c)) (nnF pr pc r c) = 0)
def seesF (g : Nat → Int32) (cm : Cm) (pr pc r c : Nat) : Bool := decide (g (16 * r + c) < cm.1) && (!decide ((cm.1 - g (16 * r + c)) * cm.2.1 / 10 < ab (100 * (nI c - nI pc) + cm.2.2.2 * (nI r - nI pr))) && (!decide ((cm.1 - g (16 * r + c)) * cm.2.2.1 / 10 < ab (100 * (nI r - nI pr) - cm.2.2.2 * (nI c - nI pc))) && lfr g cm.1 (g (16 * r + c)) pr pc r c))
/-- strips: (row, first, last, spacing) -/
def phF (q : S4) : Nat := (q.2.2.1 - q.2.1) / q.2.2.2 + 1
def psF (g : Nat → Int32) (cm : Cm) (q : S4) (p r c : Nat) : Bool := seesF g cm q.1 (q.2.1 + p * q.2.2.2) r c
def okS (q : S4) : Prop := q.1 < 10 ∧ q.2.1 ≤ q.2.2.1 ∧ q.2.2.1 < 16 ∧ 1 ≤ q.2.2.2 ∧ q.2.2.2 ≤ 16
theorem phF_le {q : S4} (h : okS q) : phF q ≤ 16 := by
  unfold phF okS at *
  have := Nat.div_le_self (q.2.2.1 - q.2.1) q.2.2.2
  omega
theorem ph_col {q : S4} (h : okS q) {p : Nat} (hp : p < phF q) : q.2.1 + p * q.2.2.2 ≤ q.2.2.1 := by
  unfold phF at hp
  obtain ⟨h1, h2, h3, h4, h5⟩ := h
  have h6 : p ≤ (q.2.2.1 - q.2.1) / q.2.2.2 := by omega
  have h7 := (Nat.le_div_iff_mul_le (by omega)).mp h6
  omega
def ssF (g : Nat → Int32) (cm : Cm) (q : S4) (r c : Nat) : Bool := decide (0 < cnt (fun p => psF g cm q p r c) (phF q))
def covF (g : Nat → Int32) (cm : Cm) (sq : Nat → S4) (r c : Nat) : Nat → Nat
  | 0 => 0
  | i + 1 => covF g cm sq r c i + cnt (fun p => psF g cm (sq i) p r c) (phF (sq i))
theorem covF_le (g : Nat → Int32) (cm : Cm) (sq : Nat → S4) (r c : Nat) {n : Nat} (h : ∀ i, i < n → okS (sq i)) : covF g cm sq r c n ≤ 16 * n := by
  induction n with
  | zero => simp [covF]
  | succ n ih =>
    have h1 := ih (fun i hi => h i (by omega))
    have h2 := cnt_le (fun p => psF g cm (sq n) p r c) (phF (sq n))
    have h3 := phF_le (h n (by omega))
    simp only [covF]; omega
/-- a strip in the world; the strips of a list -/
def VS (σ : Sg) (k : Nat) (q : S4) : Prop := σ k 0 = nI q.1 ∧ σ k 1 = nI q.2.1 ∧ σ k 2 = nI q.2.2.1 ∧ σ k 3 = nI q.2.2.2 ∧ okS q
def LSt (σ : Sg) (b n : Nat) (sq : Nat → S4) : Prop := σ (16 + b) 0 = nI n ∧ n ≤ 8 ∧ ∀ i, i < n → VS σ (8 * b + i) (sq i)
def cmC (σ : Sg) : Cm := (σ 23 0, σ 23 1, σ 23 2, σ 23 3)
/-- heights and altitude as the calls keep them -/
def hB (g : Nat → Int32) (alt : Int32) : Prop := (∀ j, j < 160 → 0 ≤ g j ∧ g j ≤ 999) ∧ 100 ≤ alt ∧ alt ≤ 5000
end
section
theorem n16 : (16 : Int32) = nI 16 := rfl
theorem ix16 (r c : Nat) : nI r * (16 : Int32) + nI c = nI (16 * r + c) := by rw [n16, pk_mul, nI_add, Nat.mul_comm]
theorem ix16_lt {r c : Nat} (hr : r < 10) (hc : c < 16) : 16 * r + c < 160 := by omega

set_option maxRecDepth 100000 in
set_option maxHeartbeats 4000000 in
theorem c_X7_heightAt (l : Launch) (G : Gm) (σ : Sg) (r c : Nat) (h1 : r < 10) (h2 : c < 16) : Met l yX7_heightAt wsX7_heightAt (rmO 0 0) (PP G [.ref (G.2.1 21), .int (nI r), .int (nI c)] σ) (QI G (RV (σ 22 (16 * r + c)) σ)) 0 0 (fr G) := by
  refine r_start (cc := cX7_heightAt) (maxL := 4) (ret := (some .int)) (by decide) rfl (Nat.le_of_ble_eq_true rfl) ?_
  intro pz ez sz mz below meth cz ls CF hr hlk hK hH hS hl
  have CF : CallFix pz mz cz cX7_heightAt 4 sz (List.toArray [.ref (G.2.1 21), .int (nI r), .int (nI c)]) wsX7_heightAt RX7 := CF
  have hx := CF.1
  have hb := CF.2.1
  have hown := CF.2.2.2.1
  have hts := CF.2.2.2.2
  have hl : lv_has ls 4 [(0, .ref (G.2.1 21)), (1, .int (nI r)), (2, .int (nI c))] := hl
  have K1 := hts _ (List.mem_of_getElem? (i := 1) rfl)
  have JX7 : ∀ w ∈ wsX70, w ∈ wsX7_heightAt := in_r _ [2, 3, 4] (by decide +kernel)
  refine lv_iload_n hx hb dX7_heightAt_0 rfl (lv_at hl 1 rfl) ?_
  refine lv_bipush (v := 16) hx hb dX7_heightAt_1 (by decide) ?_
  refine lv_imul hx hb dX7_heightAt_3 ?_
  refine lv_iload_n hx hb dX7_heightAt_4 rfl (lv_at hl 2 rfl) ?_
  refine lv_iadd hx hb dX7_heightAt_5 ?_
  refine r_top (show ((((nI r) * (16 : Int32)) + (nI c)) : Int32) = nI (16 * r + c) from ix16 r c) ?_
  refine lv_istore_n (lv' := [(3, .int (nI (16 * r + c))), (0, .ref (G.2.1 21)), (1, .int (nI r)), (2, .int (nI c))]) hx hb dX7_heightAt_6 rfl hl (by decide) rfl (fun ls hl => ?_)
  refine lv_iload_n hx hb dX7_heightAt_7 rfl (lv_at hl 0 rfl) ?_
  refine lv_if_lt (tgt := 29) hx hb dX7_heightAt_8 (by decide) (fun c8 => ?_) (fun c8 => ?_)
  · exact absurd c8 (nI_pos (by omega))
  · refine lv_iload_n hx hb dX7_heightAt_11 rfl (lv_at hl 0 rfl) ?_
    refine lv_aload_n hx hb dX7_heightAt_12 rfl (lv_at hl 1 rfl) ?_
    refine r_get CF hK hH 21 (Nat.le_of_ble_eq_true rfl) rfl rfl JX7 2 (by decide) K1 rfl dX7_heightAt_13 ?_
    refine r_alen (v := 160) CF hK hH 22 (Nat.le_of_ble_eq_true rfl) rfl 0 rfl rfl dX7_heightAt_16 ?_
    refine lv_icmp_ge (tgt := 29) hx hb dX7_heightAt_17 (by decide) (fun c17 => ?_) (fun c17 => ?_)
    · exact absurd c17 (nI_ge (b := 160) (by omega) (by omega))
    · refine lv_aload_n hx hb dX7_heightAt_20 rfl (lv_at hl 1 rfl) ?_
      refine r_get CF hK hH 21 (Nat.le_of_ble_eq_true rfl) rfl rfl JX7 2 (by decide) K1 rfl dX7_heightAt_21 ?_
      refine lv_iload_n hx hb dX7_heightAt_24 rfl (lv_at hl 0 rfl) ?_
      refine r_iald CF hK hH 22 (Nat.le_of_ble_eq_true rfl) rfl (Nat.le_of_ble_eq_true rfl) (16 * r + c) rfl (by omega) dX7_heightAt_25 ?_
      refine lv_goto (tgt := 30) hx hb dX7_heightAt_26 (by decide) ?_
      exact r_iret CF hr hlk hH hS dX7_heightAt_30 ⟨rfl, rfl⟩

set_option maxRecDepth 100000 in
set_option maxHeartbeats 4000000 in
theorem c_X7_put (l : Launch) (G : Gm) (σ : Sg) (r c : Nat) (v : Int32) (h1 : r < 10) (h2 : c < 16) : Met l yX7_put wsX7_put (rmO 0 0) (PP G [.ref (G.2.1 21), .int (nI r), .int (nI c), .int v] σ) (QV G (VV (u2 σ 22 (16 * r + c) v))) 0 0 (fr G) := by
  refine r_start (cc := cX7_put) (maxL := 5) (ret := none) (by decide) rfl (Nat.le_of_ble_eq_true rfl) ?_
  intro pz ez sz mz below meth cz ls CF hr hlk hK hH hS hl
  have CF : CallFix pz mz cz cX7_put 5 sz (List.toArray [.ref (G.2.1 21), .int (nI r), .int (nI c), .int v]) wsX7_put RX7 := CF
  have hx := CF.1
  have hb := CF.2.1
  have hown := CF.2.2.2.1
  have hts := CF.2.2.2.2
  have hl : lv_has ls 5 [(0, .ref (G.2.1 21)), (1, .int (nI r)), (2, .int (nI c)), (3, .int v)] := hl
  have K1 := hts _ (List.mem_of_getElem? (i := 1) rfl)
  have JX7 : ∀ w ∈ wsX70, w ∈ wsX7_put := in_r _ [2, 3, 4] (by decide +kernel)
  refine lv_iload_n hx hb dX7_put_0 rfl (lv_at hl 1 rfl) ?_
  refine lv_bipush (v := 16) hx hb dX7_put_1 (by decide) ?_
  refine lv_imul hx hb dX7_put_3 ?_
  refine lv_iload_n hx hb dX7_put_4 rfl (lv_at hl 2 rfl) ?_
  refine lv_iadd hx hb dX7_put_5 ?_
  refine r_top (show ((((nI r) * (16 : Int32)) + (nI c)) : Int32) = nI (16 * r + c) from ix16 r c) ?_
  refine lv_istore (lv' := [(4, .int (nI (16 * r + c))), (0, .ref (G.2.1 21)), (1, .int (nI r)), (2, .int (nI c)), (3, .int v)]) hx hb dX7_put_6 hl (by decide) rfl (fun ls hl => ?_)
  refine lv_iload hx hb dX7_put_8 (lv_at hl 0 rfl) ?_
  refine lv_if_lt (tgt := 31) hx hb dX7_put_10 (by decide) (fun c10 => ?_) (fun c10 => ?_)
  · exact absurd c10 (nI_pos (by omega))
  · refine lv_iload hx hb dX7_put_13 (lv_at hl 0 rfl) ?_
    refine lv_aload_n hx hb dX7_put_15 rfl (lv_at hl 1 rfl) ?_
    refine r_get CF hK hH 21 (Nat.le_of_ble_eq_true rfl) rfl rfl JX7 2 (by decide) K1 rfl dX7_put_16 ?_
    refine r_alen (v := 160) CF hK hH 22 (Nat.le_of_ble_eq_true rfl) rfl 0 rfl rfl dX7_put_19 ?_
    refine lv_icmp_ge (tgt := 31) hx hb dX7_put_20 (by decide) (fun c20 => ?_) (fun c20 => ?_)
    · exact absurd c20 (nI_ge (b := 160) (by omega) (by omega))
    · refine lv_aload_n hx hb dX7_put_23 rfl (lv_at hl 1 rfl) ?_
      refine r_get CF hK hH 21 (Nat.le_of_ble_eq_true rfl) rfl rfl JX7 2 (by decide) K1 rfl dX7_put_24 ?_
      refine lv_iload hx hb dX7_put_27 (lv_at hl 0 rfl) ?_
      refine lv_iload_n hx hb dX7_put_29 rfl (lv_at hl 4 rfl) ?_
      refine r_iast CF hK hH hS 22 (Nat.le_of_ble_eq_true rfl) (fun _ => rfl) (Nat.le_of_ble_eq_true rfl) (16 * r + c) rfl (by omega) dX7_put_30 (fun H locs hH hS => ?_)
      exact r_vret CF hr hlk hH hS dX7_put_31 rfl

def zr (f : Nat → Int32) (n : Nat) : Nat → Int32 := fun j => if j < n then 0 else f j
theorem zr_0 (f : Nat → Int32) : zr f 0 = f := by funext j; simp [zr]
theorem zr_s (f : Nat → Int32) (n : Nat) : va_up (zr f n) n 0 = zr f (n + 1) := by
  funext j
  by_cases h : j = n
  · subst h; simp [va_up, zr]
  · rw [up_n _ _ h]; unfold zr
    by_cases h2 : j < n
    · rw [if_pos h2, if_pos (by omega)]
    · rw [if_neg h2, if_neg (by omega)]
theorem up_up {α : Type} (f : Nat → α) (k : Nat) (v w : α) : va_up (va_up f k v) k w = va_up f k w := by
  funext j
  by_cases h : j = k
  · subst h; simp [va_up]
  · rw [up_n _ _ h, up_n _ _ h, up_n _ _ h]
theorem u2_up (σ : Sg) (k : Nat) (f : Nat → Int32) (j : Nat) (v : Int32) : u2 (va_up σ k f) k j v = va_up σ k (va_up f j v) := by
  unfold u2; rw [up_s, up_up]
theorem up_id {α : Type} (f : Nat → α) (k : Nat) : va_up f k (f k) = f := by
  funext j
  by_cases h : j = k
  · subst h; simp [va_up]
  · rw [up_n _ _ h]

set_option maxRecDepth 100000 in
set_option maxHeartbeats 4000000 in
theorem c_X7_flatten (l : Launch) (G : Gm) (σ : Sg) (x y : Int32) : Met l yX7_flatten wsX7_flatten (rmO 0 0) (PP G [.ref (G.2.1 21), .int x, .int y] σ) (QV G (VV (va_up (u2 (u2 σ 21 0 x) 21 1 y) 22 (zr (σ 22) 160)))) 0 0 (fr G) := by
  refine r_start (cc := cX7_flatten) (maxL := 4) (ret := none) (by decide) rfl (Nat.le_of_ble_eq_true rfl) ?_
  intro pz ez sz mz below meth cz ls CF hr hlk hK hH hS hl
  have CF : CallFix pz mz cz cX7_flatten 4 sz (List.toArray [.ref (G.2.1 21), .int x, .int y]) wsX7_flatten RX7 := CF
  have hx := CF.1
  have hb := CF.2.1
  have hown := CF.2.2.2.1
  have hts := CF.2.2.2.2
  have hl : lv_has ls 4 [(0, .ref (G.2.1 21)), (1, .int x), (2, .int y)] := hl
  have K1 := hts _ (List.mem_of_getElem? (i := 1) rfl)
  have K2 := hts _ (List.mem_of_getElem? (i := 2) rfl)
  have K3 := hts _ (List.mem_of_getElem? (i := 3) rfl)
  have JX7 : ∀ w ∈ wsX70, w ∈ wsX7_flatten := in_r _ [4, 5, 6] (by decide +kernel)
  refine lv_aload_n hx hb dX7_flatten_0 rfl (lv_at hl 0 rfl) ?_
  refine lv_iload_n hx hb dX7_flatten_1 rfl (lv_at hl 1 rfl) ?_
  refine r_put CF hK hH hS 21 (Nat.le_of_ble_eq_true rfl) rfl rfl JX7 tyX7 tyX7_ok nmX7 0 (by decide) K1 rfl (by decide +kernel) (Nat.le_of_ble_eq_true rfl) rfl dX7_flatten_2 (fun H locs hH hS => ?_)
  refine lv_aload_n hx hb dX7_flatten_5 rfl (lv_at hl 0 rfl) ?_
  refine lv_iload_n hx hb dX7_flatten_6 rfl (lv_at hl 2 rfl) ?_
  refine r_put CF hK hH hS 21 (Nat.le_of_ble_eq_true rfl) rfl rfl JX7 tyX7 tyX7_ok nmX7 1 (by decide) K2 rfl (by decide +kernel) (Nat.le_of_ble_eq_true rfl) rfl dX7_flatten_7 (fun H locs hH hS => ?_)
  refine lv_iconst (v := 0) hx hb dX7_flatten_10 (by decide) ?_
  refine lv_istore_n (lv' := [(3, .int (0 : Int32)), (0, .ref (G.2.1 21)), (1, .int x), (2, .int y)]) hx hb dX7_flatten_11 rfl hl (by decide) rfl (fun ls hl => ?_)
  have lp12 : ∀ (fu : Nat) (i : Nat) (σ1 : Sg) (H : Heap) (locs : List Loc) (ls : Array Slot), (161 ≤ i + fu) → (i ≤ 160) → (σ1 = va_up (u2 (u2 σ 21 0 x) 21 1 y) 22 (zr (σ 22) i)) → Hp G σ1 H → va_S (fr G) sz.heap H locs → lv_has ls 4 [(0, .ref (G.2.1 21)), (3, .int (nI i)), (1, .int x), (2, .int y)] → W pz l ez (rmO 0 0) sz mz (List.toArray [.ref (G.2.1 21), .int x, .int y]) below meth cz H locs 0 0 (MQ below (QV G (VV (va_up (u2 (u2 σ 21 0 x) 21 1 y) 22 (zr (σ 22) 160)))) (List.toArray [.ref (G.2.1 21), .int x, .int y]) sz 0 0 (fr G)) (F0 mz 12 ls []) := by
    intro fu
    induction fu with
    | zero => intros; omega
    | succ fu ih12 =>
      intro i σ1 H locs ls hf hi hσ hH hS hl
      refine lv_iload_n hx hb dX7_flatten_12 rfl (lv_at hl 1 rfl) ?_
      refine lv_aload_n hx hb dX7_flatten_13 rfl (lv_at hl 0 rfl) ?_
      refine r_get CF hK hH 21 (Nat.le_of_ble_eq_true rfl) rfl rfl JX7 2 (by decide) K3 rfl dX7_flatten_14 ?_
      refine r_alen (v := 160) CF hK hH 22 (Nat.le_of_ble_eq_true rfl) rfl 0 rfl rfl dX7_flatten_17 ?_
      refine lv_icmp_ge (tgt := 34) hx hb dX7_flatten_18 (by decide) (fun c18 => ?_) (fun c18 => ?_)
      · have c18 : 160 ≤ i := (nI_leI (a := 160) (b := i) (by omega) (by omega)).mp c18
        exact r_vret CF hr hlk hH hS dX7_flatten_34 (by have e : i = 160 := (by omega); subst e; exact hσ)
      · have c18 : i < 160 := Nat.lt_of_not_le (fun zq => c18 ((nI_leI (a := 160) (b := i) (by omega) (by omega)).mpr zq))
        refine lv_aload_n hx hb dX7_flatten_21 rfl (lv_at hl 0 rfl) ?_
        refine r_get CF hK hH 21 (Nat.le_of_ble_eq_true rfl) rfl rfl JX7 2 (by decide) K3 rfl dX7_flatten_22 ?_
        refine lv_iload_n hx hb dX7_flatten_25 rfl (lv_at hl 1 rfl) ?_
        refine lv_iconst (v := 0) hx hb dX7_flatten_26 (by decide) ?_
        refine r_iast CF hK hH hS 22 (Nat.le_of_ble_eq_true rfl) (fun _ => rfl) (Nat.le_of_ble_eq_true rfl) i rfl (by omega) dX7_flatten_27 (fun H locs hH hS => ?_)
        refine lv_iinc (v := nI (i + 1)) (lv' := [(3, .int (nI (i + 1))), (0, .ref (G.2.1 21)), (1, .int x), (2, .int y)]) hx hb dX7_flatten_28 hl (k := 1) rfl (nI_1 _) (by decide) rfl (fun ls hl => ?_)
        refine lv_goto (tgt := 12) hx hb dX7_flatten_31 (by decide) ?_
        exact ih12 (i + 1) (u2 σ1 22 i (0 : Int32)) _ _ ls (by omega) (by omega) (by rw [hσ, u2_up, zr_s]) hH hS (lv_sub hl [1, 0, 2, 3] rfl)
  exact lp12 161 0 (u2 (u2 σ 21 0 x) 21 1 y) _ _ ls (by omega) (by omega) (by rw [zr_0]; exact (up_id _ 22).symm) hH hS (lv_sub hl [1, 0, 2, 3] rfl)

set_option maxRecDepth 100000 in
set_option maxHeartbeats 4000000 in
theorem c_J9_floorDiv_7cf53 (l : Launch) (G : Gm) (σ : Sg) (x y : Int32) (hy : ¬ y = 0) : Met l yJ9_floorDiv_7cf53 wsJ9_floorDiv_7cf53 (rmO 0 0) (PP G [.int x, .int y] σ) (QI G (RV (fdI x y) σ)) 0 0 (fr G) := by
  refine r_startF (cc := cJ9_floorDiv_7cf53) (maxL := 3) (ret := (some .int)) (by decide +kernel) rfl (Nat.le_of_ble_eq_true rfl) ?_
  intro pz ez sz mz below meth cz ls CF hr hlk hK hH hS hl
  have CF : CallFix pz mz cz cJ9_floorDiv_7cf53 3 sz (List.toArray [.int x, .int y]) wsJ9_floorDiv_7cf53 RJ9 := CF
  have hx := CF.1
  have hb := CF.2.1
  have hown := CF.2.2.2.1
  have hts := CF.2.2.2.2
  have hl : lv_has ls 3 [(0, .int x), (1, .int y)] := hl
  refine lv_iload_n hx hb dJ9_floorDiv_7cf53_0 rfl (lv_at hl 0 rfl) ?_
  refine lv_iload_n hx hb dJ9_floorDiv_7cf53_1 rfl (lv_at hl 1 rfl) ?_
  refine lv_idiv hx hb dJ9_floorDiv_7cf53_2 hy ?_
  refine lv_istore_n (lv' := [(2, .int (x / y)), (0, .int x), (1, .int y)]) hx hb dJ9_floorDiv_7cf53_3 rfl hl (by decide) rfl (fun ls hl => ?_)
  refine lv_iload_n hx hb dJ9_floorDiv_7cf53_4 rfl (lv_at hl 1 rfl) ?_
  refine lv_iload_n hx hb dJ9_floorDiv_7cf53_5 rfl (lv_at hl 2 rfl) ?_
  refine lv_ixor hx hb dJ9_floorDiv_7cf53_6 ?_
  refine lv_if_ge (tgt := 21) hx hb dJ9_floorDiv_7cf53_7 (by decide) (fun c7 => ?_) (fun c7 => ?_)
  · refine lv_iload_n hx hb dJ9_floorDiv_7cf53_21 rfl (lv_at hl 0 rfl) ?_
    exact r_iret CF hr hlk hH hS dJ9_floorDiv_7cf53_22 ⟨by simp [fdI, c7], rfl⟩
  · refine lv_iload_n hx hb dJ9_floorDiv_7cf53_10 rfl (lv_at hl 0 rfl) ?_
    refine lv_iload_n hx hb dJ9_floorDiv_7cf53_11 rfl (lv_at hl 2 rfl) ?_
    refine lv_imul hx hb dJ9_floorDiv_7cf53_12 ?_
    refine lv_iload_n hx hb dJ9_floorDiv_7cf53_13 rfl (lv_at hl 1 rfl) ?_
    refine lv_icmp_eq (tgt := 21) hx hb dJ9_floorDiv_7cf53_14 (by decide) (fun c14 => ?_) (fun c14 => ?_)
    · refine lv_iload_n hx hb dJ9_floorDiv_7cf53_21 rfl (lv_at hl 0 rfl) ?_
      exact r_iret CF hr hlk hH hS dJ9_floorDiv_7cf53_22 ⟨by simp [fdI, c7, c14], rfl⟩
    · refine lv_iload_n hx hb dJ9_floorDiv_7cf53_17 rfl (lv_at hl 0 rfl) ?_
      refine lv_iconst (v := 1) hx hb dJ9_floorDiv_7cf53_18 (by decide) ?_
      refine lv_isub hx hb dJ9_floorDiv_7cf53_19 ?_
      exact r_iret CF hr hlk hH hS dJ9_floorDiv_7cf53_20 ⟨by simp [fdI, c7, c14], rfl⟩

theorem steps_nI {pr pc r c : Nat} (h1 : pr < 10) (h2 : pc < 16) (h3 : r < 10) (h4 : c < 16) : (if ab (nI r - nI pr) < ab (nI c - nI pc) then ab (nI c - nI pc) else ab (nI r - nI pr)) = nI (nnF pr pc r c) := by
  rw [ab_nI (by omega) (by omega), ab_nI (by omega) (by omega)]
  have a1 : ad1 r pr < 100 := by unfold ad1; omega
  have a2 : ad1 c pc < 100 := by unfold ad1; omega
  exact mx_nI (by omega) (by omega)
theorem twon {n : Nat} (h : 2 ≤ n) (h2 : n ≤ 15) : ¬ (2 : Int32) * nI n = 0 := by
  rw [show (2 : Int32) * nI n = nI (2 * n) from pk_mul 2 n]
  exact nI_ne0 (by omega) (by omega)

set_option maxRecDepth 100000 in
set_option maxHeartbeats 4000000 in
theorem c_X1_isLineFree (l : Launch) (G : Gm) (σ : Sg) (pr pc r c : Nat) (h1 : pr < 10) (h2 : pc < 16) (h3 : r < 10) (h4 : c < 16) : Met l yX1_isLineFree wsX1_isLineFree (rmO 1 23) (PP G [.ref (G.2.1 23), .ref (G.2.1 21), .int (nI pr), .int (nI pc), .int (nI r), .int (nI c)] σ) (QI G (RV (b2i (lfr (σ 22) (σ 23 0) (σ 22 (16 * r + c)) pr pc r c)) σ)) 0 0 (fr G) := by
  refine r_start (cc := cX1_isLineFree) (maxL := 14) (ret := (some .boolean)) (by decide) rfl (Nat.le_of_ble_eq_true rfl) ?_
  intro pz ez sz mz below meth cz ls CF hr hlk hK hH hS hl
  have CF : CallFix pz mz cz cX1_isLineFree 14 sz (List.toArray [.ref (G.2.1 23), .ref (G.2.1 21), .int (nI pr), .int (nI pc), .int (nI r), .int (nI c)]) wsX1_isLineFree RX1 := CF
  have hx := CF.1
  have hb := CF.2.1
  have hown := CF.2.2.2.1
  have hts := CF.2.2.2.2
  have hl : lv_has ls 14 [(0, .ref (G.2.1 23)), (1, .ref (G.2.1 21)), (2, .int (nI pr)), (3, .int (nI pc)), (4, .int (nI r)), (5, .int (nI c))] := hl
  have K1 := hts _ (List.mem_of_getElem? (i := 1) rfl)
  have K2 := hts _ (List.mem_of_getElem? (i := 2) rfl)
  have K3 := hts _ (List.mem_of_getElem? (i := 3) rfl)
  have K4 := hts _ (List.mem_of_getElem? (i := 4) rfl)
  have K5 := hts _ (List.mem_of_getElem? (i := 5) rfl)
  have K6 := hts _ (List.mem_of_getElem? (i := 6) rfl)
  have K7 := hts _ (List.mem_of_getElem? (i := 7) rfl)
  have K8 := hts _ (List.mem_of_getElem? (i := 8) rfl)
  have JX1 : ∀ w ∈ wsX10, w ∈ wsX1_isLineFree := in_r _ [19, 20, 21, 22] (by decide +kernel)
  have hnn := nnF_le h1 h2 h3 h4
  have hn1 := nnF_1 pr pc r c
  have hn2 := nnF_2 pr pc r c
  generalize hN : nnF pr pc r c = N at hnn hn1 hn2
  refine lv_iload hx hb dX1_isLineFree_0 (lv_at hl 4 rfl) ?_
  refine lv_iload_n hx hb dX1_isLineFree_2 rfl (lv_at hl 2 rfl) ?_
  refine lv_isub hx hb dX1_isLineFree_3 ?_
  refine lv_istore (lv' := [(6, .int ((nI r) - (nI pr))), (0, .ref (G.2.1 23)), (1, .ref (G.2.1 21)), (2, .int (nI pr)), (3, .int (nI pc)), (4, .int (nI r)), (5, .int (nI c))]) hx hb dX1_isLineFree_4 hl (by decide) rfl (fun ls hl => ?_)
  refine lv_iload hx hb dX1_isLineFree_6 (lv_at hl 6 rfl) ?_
  refine lv_iload_n hx hb dX1_isLineFree_8 rfl (lv_at hl 4 rfl) ?_
  refine lv_isub hx hb dX1_isLineFree_9 ?_
  refine lv_istore (lv' := [(7, .int ((nI c) - (nI pc))), (6, .int ((nI r) - (nI pr))), (0, .ref (G.2.1 23)), (1, .ref (G.2.1 21)), (2, .int (nI pr)), (3, .int (nI pc)), (4, .int (nI r)), (5, .int (nI c))]) hx hb dX1_isLineFree_10 hl (by decide) rfl (fun ls hl => ?_)
  refine lv_iload hx hb dX1_isLineFree_12 (lv_at hl 1 rfl) ?_
  refine va_mabs hx hb (by rw [CF.2.2.1]; exact hl.1.symm) hown K1 K2 K3 K4 (Nat.le_of_ble_eq_true rfl) (Nat.le_of_ble_eq_true rfl) (Nat.le_of_ble_eq_true rfl) (Nat.le_of_ble_eq_true rfl) dX1_isLineFree_14 ?_
  refine r_top (show ((if 0 ≤ ((nI r) - (nI pr)) then ((nI r) - (nI pr)) else 0 - ((nI r) - (nI pr))) : Int32) = ab (nI r - nI pr) from ab_m _) ?_
  refine lv_iload hx hb dX1_isLineFree_17 (lv_at hl 0 rfl) ?_
  refine va_mabs hx hb (by rw [CF.2.2.1]; exact hl.1.symm) hown K1 K2 K3 K4 (Nat.le_of_ble_eq_true rfl) (Nat.le_of_ble_eq_true rfl) (Nat.le_of_ble_eq_true rfl) (Nat.le_of_ble_eq_true rfl) dX1_isLineFree_19 ?_
  refine r_top (show ((if 0 ≤ ((nI c) - (nI pc)) then ((nI c) - (nI pc)) else 0 - ((nI c) - (nI pc))) : Int32) = ab (nI c - nI pc) from ab_m _) ?_
  refine va_mmax hx hb (by rw [CF.2.2.1]; exact hl.1.symm) hown K5 K6 K3 K7 (Nat.le_of_ble_eq_true rfl) (Nat.le_of_ble_eq_true rfl) (Nat.le_of_ble_eq_true rfl) (Nat.le_of_ble_eq_true rfl) dX1_isLineFree_22 ?_
  refine r_top (show ((if (ab (nI r - nI pr)) < (ab (nI c - nI pc)) then (ab (nI c - nI pc)) else (ab (nI r - nI pr))) : Int32) = nI N from (by rw [steps_nI h1 h2 h3 h4, hN])) ?_
  refine lv_istore (lv' := [(8, .int (nI N)), (7, .int ((nI c) - (nI pc))), (6, .int ((nI r) - (nI pr))), (0, .ref (G.2.1 23)), (1, .ref (G.2.1 21)), (2, .int (nI pr)), (3, .int (nI pc)), (4, .int (nI r)), (5, .int (nI c))]) hx hb dX1_isLineFree_25 hl (by decide) rfl (fun ls hl => ?_)
  refine lv_iload hx hb dX1_isLineFree_27 (lv_at hl 0 rfl) ?_
  refine lv_iconst (v := 2) hx hb dX1_isLineFree_29 (by decide) ?_
  refine lv_icmp_ge (tgt := 35) hx hb dX1_isLineFree_30 (by decide) (fun c30 => ?_) (fun c30 => ?_)
  · have c30 : 2 ≤ N := (nI_leI (a := 2) (b := N) (by omega) (by omega)).mp c30
    refine lv_aload_n hx hb dX1_isLineFree_35 rfl (lv_at hl 4 rfl) ?_
    refine lv_iload hx hb dX1_isLineFree_36 (lv_at hl 7 rfl) ?_
    refine lv_iload hx hb dX1_isLineFree_38 (lv_at hl 8 rfl) ?_
    refine r_cR hS (r_runV (n := 2) (As := [.int (nI r), .int (nI c)]) (rest := []) CF hK hH (c_X7_heightAt l G σ r c (by omega) (by omega)) gX1_isLineFree_X7_heightAt rfl rfl rfl rfl (by decide +kernel) ⟨⟨Nat.le_of_ble_eq_true rfl, Nat.le_of_ble_eq_true rfl⟩, Nat.le_of_ble_eq_true rfl, Nat.le_of_ble_eq_true rfl⟩ 21 rfl (Nat.le_of_ble_eq_true rfl) rfl rfl rfl hl.1 rfl (Nat.le_of_ble_eq_true rfl) dX1_isLineFree_40) (fun H locs hH hS => ?_)
    refine lv_aload_n hx hb dX1_isLineFree_43 rfl (lv_at hl 3 rfl) ?_
    refine r_get CF hK hH 23 (Nat.le_of_ble_eq_true rfl) rfl rfl JX1 0 (by decide) K8 rfl dX1_isLineFree_44 ?_
    refine lv_isub hx hb dX1_isLineFree_47 ?_
    refine lv_istore (lv' := [(9, .int ((σ 22 (16 * r + c)) - (σ 23 0))), (8, .int (nI N)), (7, .int ((nI c) - (nI pc))), (6, .int ((nI r) - (nI pr))), (0, .ref (G.2.1 23)), (1, .ref (G.2.1 21)), (2, .int (nI pr)), (3, .int (nI pc)), (4, .int (nI r)), (5, .int (nI c))]) hx hb dX1_isLineFree_48 hl (by decide) rfl (fun ls hl => ?_)
    refine lv_iconst (v := 1) hx hb dX1_isLineFree_50 (by decide) ?_
    refine lv_istore (lv' := [(10, .int (1 : Int32)), (9, .int ((σ 22 (16 * r + c)) - (σ 23 0))), (8, .int (nI N)), (7, .int ((nI c) - (nI pc))), (6, .int ((nI r) - (nI pr))), (0, .ref (G.2.1 23)), (1, .ref (G.2.1 21)), (2, .int (nI pr)), (3, .int (nI pc)), (4, .int (nI r)), (5, .int (nI c))]) hx hb dX1_isLineFree_51 hl (by decide) rfl (fun ls hl => ?_)
    have lp53 : ∀ (fu : Nat) (k : Nat) (H : Heap) (locs : List Loc) (ls : Array Slot), (N + 1 ≤ k + fu) → (1 ≤ k) → (k ≤ N) → (cnt (blk (σ 22) (σ 23 0) (σ 22 (16 * r + c)) pr pc r c N) k = 0) → Hp G σ H → va_S (fr G) sz.heap H locs → lv_has ls 14 [(0, .ref (G.2.1 23)), (1, .ref (G.2.1 21)), (2, .int (nI pr)), (3, .int (nI pc)), (6, .int (nI r - nI pr)), (7, .int (nI c - nI pc)), (8, .int (nI N)), (9, .int (σ 22 (16 * r + c) - σ 23 0)), (10, .int (nI k))] → W pz l ez (rmO 1 23) sz mz (List.toArray [.ref (G.2.1 23), .ref (G.2.1 21), .int (nI pr), .int (nI pc), .int (nI r), .int (nI c)]) below meth cz H locs 0 0 (MQ below (QI G (RV (b2i (lfr (σ 22) (σ 23 0) (σ 22 (16 * r + c)) pr pc r c)) σ)) (List.toArray [.ref (G.2.1 23), .ref (G.2.1 21), .int (nI pr), .int (nI pc), .int (nI r), .int (nI c)]) sz 0 0 (fr G)) (F0 mz 53 ls []) := by
      intro fu
      induction fu with
      | zero => intros; omega
      | succ fu ih53 =>
        intro k H locs ls hf hk1 hkN hz hH hS hl
        refine lv_iload hx hb dX1_isLineFree_53 (lv_at hl 8 rfl) ?_
        refine lv_iload hx hb dX1_isLineFree_55 (lv_at hl 6 rfl) ?_
        refine lv_icmp_ge (tgt := 141) hx hb dX1_isLineFree_57 (by decide) (fun c57 => ?_) (fun c57 => ?_)
        · have c57 : N ≤ k := (nI_leI (a := N) (b := k) (by omega) (by omega)).mp c57
          refine lv_iconst (v := 1) hx hb dX1_isLineFree_141 (by decide) ?_
          exact r_zret CF hr hlk hH hS rfl dX1_isLineFree_142 ⟨by unfold lfr; rw [hN]; have e : k = N := (by omega); subst e; simp [hz, b2i], rfl⟩
        · have c57 : k < N := Nat.lt_of_not_le (fun zq => c57 ((nI_leI (a := N) (b := k) (by omega) (by omega)).mpr zq))
          have q1 := qz_lt hk1 c57 hn1 h1 h3
          have q2 := qz_lt hk1 c57 hn2 h2 h4
          refine lv_iload_n hx hb dX1_isLineFree_60 rfl (lv_at hl 2 rfl) ?_
          refine lv_iconst (v := 2) hx hb dX1_isLineFree_61 (by decide) ?_
          refine lv_iload hx hb dX1_isLineFree_62 (lv_at hl 8 rfl) ?_
          refine lv_imul hx hb dX1_isLineFree_64 ?_
          refine lv_iload hx hb dX1_isLineFree_65 (lv_at hl 4 rfl) ?_
          refine lv_imul hx hb dX1_isLineFree_67 ?_
          refine lv_iload hx hb dX1_isLineFree_68 (lv_at hl 6 rfl) ?_
          refine lv_iadd hx hb dX1_isLineFree_70 ?_
          refine lv_iconst (v := 2) hx hb dX1_isLineFree_71 (by decide) ?_
          refine lv_iload hx hb dX1_isLineFree_72 (lv_at hl 6 rfl) ?_
          refine lv_imul hx hb dX1_isLineFree_74 ?_
          refine r_cR hS (r_runS (n := 2) (As := [.int ((((2 : Int32) * (nI k)) * (nI r - nI pr)) + (nI N)), .int ((2 : Int32) * (nI N))]) (rest := [.int (nI pr)]) CF hK hH (c_J9_floorDiv_7cf53 l G σ ((((2 : Int32) * (nI k)) * (nI r - nI pr)) + (nI N)) ((2 : Int32) * (nI N)) (twon c30 hnn)) gX1_isLineFree_J9_floorDiv_7cf53 rfl rfl rfl (by decide +kernel) ⟨⟨Nat.le_of_ble_eq_true rfl, Nat.le_of_ble_eq_true rfl⟩, Nat.le_of_ble_eq_true rfl, Nat.le_of_ble_eq_true rfl⟩ rfl hl.1 rfl (Nat.le_of_ble_eq_true rfl) dX1_isLineFree_75) (fun H locs hH hS => ?_)
          refine lv_iadd hx hb dX1_isLineFree_78 ?_
          refine r_top (show (((nI pr) + (fdI ((((2 : Int32) * (nI k)) * (nI r - nI pr)) + (nI N)) ((2 : Int32) * (nI N)))) : Int32) = nI (qz k N pr r) from ln_c hk1 c57 (by omega) (by omega) (by omega) hn1) ?_
          refine lv_istore (lv' := [(11, .int (nI (qz k N pr r))), (0, .ref (G.2.1 23)), (1, .ref (G.2.1 21)), (2, .int (nI pr)), (3, .int (nI pc)), (6, .int (nI r - nI pr)), (7, .int (nI c - nI pc)), (8, .int (nI N)), (9, .int (σ 22 (16 * r + c) - σ 23 0)), (10, .int (nI k))]) hx hb dX1_isLineFree_79 hl (by decide) rfl (fun ls hl => ?_)
          refine lv_iload_n hx hb dX1_isLineFree_81 rfl (lv_at hl 4 rfl) ?_
          refine lv_iconst (v := 2) hx hb dX1_isLineFree_82 (by decide) ?_
          refine lv_iload hx hb dX1_isLineFree_83 (lv_at hl 9 rfl) ?_
          refine lv_imul hx hb dX1_isLineFree_85 ?_
          refine lv_iload hx hb dX1_isLineFree_86 (lv_at hl 6 rfl) ?_
          refine lv_imul hx hb dX1_isLineFree_88 ?_
          refine lv_iload hx hb dX1_isLineFree_89 (lv_at hl 7 rfl) ?_
          refine lv_iadd hx hb dX1_isLineFree_91 ?_
          refine lv_iconst (v := 2) hx hb dX1_isLineFree_92 (by decide) ?_
          refine lv_iload hx hb dX1_isLineFree_93 (lv_at hl 7 rfl) ?_
          refine lv_imul hx hb dX1_isLineFree_95 ?_
          refine r_cR hS (r_runS (n := 2) (As := [.int ((((2 : Int32) * (nI k)) * (nI c - nI pc)) + (nI N)), .int ((2 : Int32) * (nI N))]) (rest := [.int (nI pc)]) CF hK hH (c_J9_floorDiv_7cf53 l G σ ((((2 : Int32) * (nI k)) * (nI c - nI pc)) + (nI N)) ((2 : Int32) * (nI N)) (twon c30 hnn)) gX1_isLineFree_J9_floorDiv_7cf53 rfl rfl rfl (by decide +kernel) ⟨⟨Nat.le_of_ble_eq_true rfl, Nat.le_of_ble_eq_true rfl⟩, Nat.le_of_ble_eq_true rfl, Nat.le_of_ble_eq_true rfl⟩ rfl hl.1 rfl (Nat.le_of_ble_eq_true rfl) dX1_isLineFree_96) (fun H locs hH hS => ?_)
          refine lv_iadd hx hb dX1_isLineFree_99 ?_
          refine r_top (show (((nI pc) + (fdI ((((2 : Int32) * (nI k)) * (nI c - nI pc)) + (nI N)) ((2 : Int32) * (nI N)))) : Int32) = nI (qz k N pc c) from ln_c hk1 c57 (by omega) h2 h4 hn2) ?_
          refine lv_istore (lv' := [(12, .int (nI (qz k N pc c))), (11, .int (nI (qz k N pr r))), (0, .ref (G.2.1 23)), (1, .ref (G.2.1 21)), (2, .int (nI pr)), (3, .int (nI pc)), (6, .int (nI r - nI pr)), (7, .int (nI c - nI pc)), (8, .int (nI N)), (9, .int (σ 22 (16 * r + c) - σ 23 0)), (10, .int (nI k))]) hx hb dX1_isLineFree_100 hl (by decide) rfl (fun ls hl => ?_)
          refine lv_aload_n hx hb dX1_isLineFree_102 rfl (lv_at hl 3 rfl) ?_
          refine lv_iload hx hb dX1_isLineFree_103 (lv_at hl 1 rfl) ?_
          refine lv_iload hx hb dX1_isLineFree_105 (lv_at hl 0 rfl) ?_
          refine r_cR hS (r_runV (n := 2) (As := [.int (nI (qz k N pr r)), .int (nI (qz k N pc c))]) (rest := []) CF hK hH (c_X7_heightAt l G σ (qz k N pr r) (qz k N pc c) q1 q2) gX1_isLineFree_X7_heightAt rfl rfl rfl rfl (by decide +kernel) ⟨⟨Nat.le_of_ble_eq_true rfl, Nat.le_of_ble_eq_true rfl⟩, Nat.le_of_ble_eq_true rfl, Nat.le_of_ble_eq_true rfl⟩ 21 rfl (Nat.le_of_ble_eq_true rfl) rfl rfl rfl hl.1 rfl (Nat.le_of_ble_eq_true rfl) dX1_isLineFree_107) (fun H locs hH hS => ?_)
          refine lv_istore (lv' := [(13, .int (σ 22 (16 * (qz k N pr r) + (qz k N pc c)))), (12, .int (nI (qz k N pc c))), (11, .int (nI (qz k N pr r))), (0, .ref (G.2.1 23)), (1, .ref (G.2.1 21)), (2, .int (nI pr)), (3, .int (nI pc)), (6, .int (nI r - nI pr)), (7, .int (nI c - nI pc)), (8, .int (nI N)), (9, .int (σ 22 (16 * r + c) - σ 23 0)), (10, .int (nI k))]) hx hb dX1_isLineFree_110 hl (by decide) rfl (fun ls hl => ?_)
          refine lv_iload hx hb dX1_isLineFree_112 (lv_at hl 0 rfl) ?_
          refine lv_iload hx hb dX1_isLineFree_114 (lv_at hl 9 rfl) ?_
          refine lv_imul hx hb dX1_isLineFree_116 ?_
          refine lv_aload_n hx hb dX1_isLineFree_117 rfl (lv_at hl 3 rfl) ?_
          refine r_get CF hK hH 23 (Nat.le_of_ble_eq_true rfl) rfl rfl JX1 0 (by decide) K8 rfl dX1_isLineFree_118 ?_
          refine lv_iload hx hb dX1_isLineFree_121 (lv_at hl 9 rfl) ?_
          refine lv_imul hx hb dX1_isLineFree_123 ?_
          refine lv_iload hx hb dX1_isLineFree_124 (lv_at hl 10 rfl) ?_
          refine lv_iload hx hb dX1_isLineFree_126 (lv_at hl 11 rfl) ?_
          refine lv_imul hx hb dX1_isLineFree_128 ?_
          refine lv_iadd hx hb dX1_isLineFree_129 ?_
          refine lv_icmp_le (tgt := 135) hx hb dX1_isLineFree_130 (by decide) (fun c130 => ?_) (fun c130 => ?_)
          · refine lv_iinc (v := nI (k + 1)) (lv' := [(10, .int (nI (k + 1))), (13, .int (σ 22 (16 * (qz k N pr r) + (qz k N pc c)))), (12, .int (nI (qz k N pc c))), (11, .int (nI (qz k N pr r))), (0, .ref (G.2.1 23)), (1, .ref (G.2.1 21)), (2, .int (nI pr)), (3, .int (nI pc)), (6, .int (nI r - nI pr)), (7, .int (nI c - nI pc)), (8, .int (nI N)), (9, .int (σ 22 (16 * r + c) - σ 23 0))]) hx hb dX1_isLineFree_135 hl (k := 11) rfl (nI_1 _) (by decide) rfl (fun ls hl => ?_)
            refine lv_goto (tgt := 53) hx hb dX1_isLineFree_138 (by decide) ?_
            exact ih53 (k + 1) _ _ ls (by omega) (by omega) (by omega) (by rw [cnt_f (by simp [blk, c130]), hz]) hH hS (lv_sub hl [4, 5, 6, 7, 8, 9, 10, 11, 0] rfl)
          · refine lv_iconst (v := 0) hx hb dX1_isLineFree_133 (by decide) ?_
            exact r_zret CF hr hlk hH hS rfl dX1_isLineFree_134 ⟨by unfold lfr; rw [hN]; have := cnt_pos (p := blk (σ 22) (σ 23 0) (σ 22 (16 * r + c)) pr pc r c N) (i := k) (by simp [blk, c130, hk1]) c57; simp [b2i]; omega, rfl⟩
    exact lp53 N 1 _ _ ls (by omega) (by omega) (by omega) (by simp [cnt, blk]) hH hS (lv_sub hl [5, 6, 7, 8, 4, 3, 2, 1, 0] rfl)
  · have c30 : N < 2 := Nat.lt_of_not_le (fun zq => c30 ((nI_leI (a := 2) (b := N) (by omega) (by omega)).mpr zq))
    refine lv_iconst (v := 1) hx hb dX1_isLineFree_33 (by decide) ?_
    exact r_zret CF hr hlk hH hS rfl dX1_isLineFree_34 ⟨by unfold lfr; rw [hN]; rcases (show N = 0 ∨ N = 1 by omega) with q | q <;> subst q <;> simp [cnt, blk, b2i], rfl⟩

set_option maxRecDepth 100000 in
set_option maxHeartbeats 4000000 in
theorem c_X1_sees (l : Launch) (G : Gm) (σ : Sg) (pr pc r c : Nat) (h1 : pr < 10) (h2 : pc < 16) (h3 : r < 10) (h4 : c < 16) (hh : hB (σ 22) (σ 23 0)) : Met l yX1_sees wsX1_sees (rmO 2 56) (PP G [.ref (G.2.1 23), .ref (G.2.1 21), .int (nI pr), .int (nI pc), .int (nI r), .int (nI c)] σ) (QI G (RV (b2i (seesF (σ 22) (cmC σ) pr pc r c)) σ)) 0 0 (fr G) := by
  refine r_start (cc := cX1_sees) (maxL := 9) (ret := (some .boolean)) (by decide) rfl (Nat.le_of_ble_eq_true rfl) ?_
  intro pz ez sz mz below meth cz ls CF hr hlk hK hH hS hl
  have CF : CallFix pz mz cz cX1_sees 9 sz (List.toArray [.ref (G.2.1 23), .ref (G.2.1 21), .int (nI pr), .int (nI pc), .int (nI r), .int (nI c)]) wsX1_sees RX1 := CF
  have hx := CF.1
  have hb := CF.2.1
  have hown := CF.2.2.2.1
  have hts := CF.2.2.2.2
  have hl : lv_has ls 9 [(0, .ref (G.2.1 23)), (1, .ref (G.2.1 21)), (2, .int (nI pr)), (3, .int (nI pc)), (4, .int (nI r)), (5, .int (nI c))] := hl
  have K1 := hts _ (List.mem_of_getElem? (i := 1) rfl)
  have K2 := hts _ (List.mem_of_getElem? (i := 2) rfl)
  have K3 := hts _ (List.mem_of_getElem? (i := 3) rfl)
  have K4 := hts _ (List.mem_of_getElem? (i := 4) rfl)
  have K5 := hts _ (List.mem_of_getElem? (i := 5) rfl)
  have K6 := hts _ (List.mem_of_getElem? (i := 6) rfl)
  have K7 := hts _ (List.mem_of_getElem? (i := 7) rfl)
  have K8 := hts _ (List.mem_of_getElem? (i := 8) rfl)
  have JX1 : ∀ w ∈ wsX10, w ∈ wsX1_sees := in_r _ [27, 28, 29, 30] (by decide +kernel)
  have hg := hh.1 (16 * r + c) (by omega)
  have hga := hh.2
  have key : 0 < σ 23 0 - σ 22 (16 * r + c) ↔ σ 22 (16 * r + c) < σ 23 0 := by revert hg hga; generalize σ 22 (16 * r + c) = x; generalize σ 23 0 = y; intro hg hga; grind
  refine lv_aload_n hx hb dX1_sees_0 rfl (lv_at hl 0 rfl) ?_
  refine r_get CF hK hH 23 (Nat.le_of_ble_eq_true rfl) rfl rfl JX1 0 (by decide) K1 rfl dX1_sees_1 ?_
  refine lv_aload_n hx hb dX1_sees_4 rfl (lv_at hl 1 rfl) ?_
  refine lv_iload hx hb dX1_sees_5 (lv_at hl 4 rfl) ?_
  refine lv_iload hx hb dX1_sees_7 (lv_at hl 5 rfl) ?_
  refine r_cR hS (r_runV (n := 2) (As := [.int (nI r), .int (nI c)]) (rest := [.int (σ 23 0)]) CF hK hH (c_X7_heightAt l G σ r c (by omega) (by omega)) gX1_sees_X7_heightAt rfl rfl rfl rfl (by decide +kernel) ⟨⟨Nat.le_of_ble_eq_true rfl, Nat.le_of_ble_eq_true rfl⟩, Nat.le_of_ble_eq_true rfl, Nat.le_of_ble_eq_true rfl⟩ 21 rfl (Nat.le_of_ble_eq_true rfl) rfl rfl rfl hl.1 rfl (Nat.le_of_ble_eq_true rfl) dX1_sees_9) (fun H locs hH hS => ?_)
  refine lv_isub hx hb dX1_sees_12 ?_
  refine lv_istore (lv' := [(6, .int ((σ 23 0) - (σ 22 (16 * r + c)))), (0, .ref (G.2.1 23)), (1, .ref (G.2.1 21)), (2, .int (nI pr)), (3, .int (nI pc)), (4, .int (nI r)), (5, .int (nI c))]) hx hb dX1_sees_13 hl (by decide) rfl (fun ls hl => ?_)
  refine lv_iload hx hb dX1_sees_15 (lv_at hl 0 rfl) ?_
  refine lv_if_gt (tgt := 22) hx hb dX1_sees_17 (by decide) (fun c17 => ?_) (fun c17 => ?_)
  · refine lv_iload hx hb dX1_sees_22 (lv_at hl 5 rfl) ?_
    refine lv_iload_n hx hb dX1_sees_24 rfl (lv_at hl 3 rfl) ?_
    refine lv_isub hx hb dX1_sees_25 ?_
    refine lv_istore (lv' := [(7, .int ((nI r) - (nI pr))), (6, .int ((σ 23 0) - (σ 22 (16 * r + c)))), (0, .ref (G.2.1 23)), (1, .ref (G.2.1 21)), (2, .int (nI pr)), (3, .int (nI pc)), (4, .int (nI r)), (5, .int (nI c))]) hx hb dX1_sees_26 hl (by decide) rfl (fun ls hl => ?_)
    refine lv_iload hx hb dX1_sees_28 (lv_at hl 7 rfl) ?_
    refine lv_iload_n hx hb dX1_sees_30 rfl (lv_at hl 5 rfl) ?_
    refine lv_isub hx hb dX1_sees_31 ?_
    refine lv_istore (lv' := [(8, .int ((nI c) - (nI pc))), (7, .int ((nI r) - (nI pr))), (6, .int ((σ 23 0) - (σ 22 (16 * r + c)))), (0, .ref (G.2.1 23)), (1, .ref (G.2.1 21)), (2, .int (nI pr)), (3, .int (nI pc)), (4, .int (nI r)), (5, .int (nI c))]) hx hb dX1_sees_32 hl (by decide) rfl (fun ls hl => ?_)
    refine lv_bipush (v := 100) hx hb dX1_sees_34 (by decide) ?_
    refine lv_iload hx hb dX1_sees_36 (lv_at hl 0 rfl) ?_
    refine lv_imul hx hb dX1_sees_38 ?_
    refine lv_aload_n hx hb dX1_sees_39 rfl (lv_at hl 3 rfl) ?_
    refine r_get CF hK hH 23 (Nat.le_of_ble_eq_true rfl) rfl rfl JX1 3 (by decide) K2 rfl dX1_sees_40 ?_
    refine lv_iload hx hb dX1_sees_43 (lv_at hl 1 rfl) ?_
    refine lv_imul hx hb dX1_sees_45 ?_
    refine lv_iadd hx hb dX1_sees_46 ?_
    refine va_mabs hx hb (by rw [CF.2.2.1]; exact hl.1.symm) hown K3 K4 K5 K6 (Nat.le_of_ble_eq_true rfl) (Nat.le_of_ble_eq_true rfl) (Nat.le_of_ble_eq_true rfl) (Nat.le_of_ble_eq_true rfl) dX1_sees_47 ?_
    refine r_top (show ((if 0 ≤ (((100 : Int32) * ((nI c) - (nI pc))) + ((σ 23 3) * ((nI r) - (nI pr)))) then (((100 : Int32) * ((nI c) - (nI pc))) + ((σ 23 3) * ((nI r) - (nI pr)))) else 0 - (((100 : Int32) * ((nI c) - (nI pc))) + ((σ 23 3) * ((nI r) - (nI pr))))) : Int32) = ab ((100 : Int32) * (nI c - nI pc) + σ 23 3 * (nI r - nI pr)) from ab_m _) ?_
    refine lv_iload hx hb dX1_sees_50 (lv_at hl 2 rfl) ?_
    refine lv_aload_n hx hb dX1_sees_52 rfl (lv_at hl 3 rfl) ?_
    refine r_get CF hK hH 23 (Nat.le_of_ble_eq_true rfl) rfl rfl JX1 1 (by decide) K7 rfl dX1_sees_53 ?_
    refine lv_imul hx hb dX1_sees_56 ?_
    refine lv_bipush (v := 10) hx hb dX1_sees_57 (by decide) ?_
    refine lv_idiv hx hb dX1_sees_59 (by decide) ?_
    refine lv_icmp_gt (tgt := 110) hx hb dX1_sees_60 (by decide) (fun c60 => ?_) (fun c60 => ?_)
    · refine lv_iconst (v := 0) hx hb dX1_sees_110 (by decide) ?_
      exact r_zret CF hr hlk hH hS rfl dX1_sees_111 ⟨by simp [seesF, cmC, b2i, ← key, c17, c60], rfl⟩
    · refine lv_bipush (v := 100) hx hb dX1_sees_63 (by decide) ?_
      refine lv_iload hx hb dX1_sees_65 (lv_at hl 1 rfl) ?_
      refine lv_imul hx hb dX1_sees_67 ?_
      refine lv_aload_n hx hb dX1_sees_68 rfl (lv_at hl 3 rfl) ?_
      refine r_get CF hK hH 23 (Nat.le_of_ble_eq_true rfl) rfl rfl JX1 3 (by decide) K2 rfl dX1_sees_69 ?_
      refine lv_iload hx hb dX1_sees_72 (lv_at hl 0 rfl) ?_
      refine lv_imul hx hb dX1_sees_74 ?_
      refine lv_isub hx hb dX1_sees_75 ?_
      refine va_mabs hx hb (by rw [CF.2.2.1]; exact hl.1.symm) hown K3 K4 K5 K6 (Nat.le_of_ble_eq_true rfl) (Nat.le_of_ble_eq_true rfl) (Nat.le_of_ble_eq_true rfl) (Nat.le_of_ble_eq_true rfl) dX1_sees_76 ?_
      refine r_top (show ((if 0 ≤ (((100 : Int32) * ((nI r) - (nI pr))) - ((σ 23 3) * ((nI c) - (nI pc)))) then (((100 : Int32) * ((nI r) - (nI pr))) - ((σ 23 3) * ((nI c) - (nI pc)))) else 0 - (((100 : Int32) * ((nI r) - (nI pr))) - ((σ 23 3) * ((nI c) - (nI pc))))) : Int32) = ab ((100 : Int32) * (nI r - nI pr) - σ 23 3 * (nI c - nI pc)) from ab_m _) ?_
      refine lv_iload hx hb dX1_sees_79 (lv_at hl 2 rfl) ?_
      refine lv_aload_n hx hb dX1_sees_81 rfl (lv_at hl 3 rfl) ?_
      refine r_get CF hK hH 23 (Nat.le_of_ble_eq_true rfl) rfl rfl JX1 2 (by decide) K8 rfl dX1_sees_82 ?_
      refine lv_imul hx hb dX1_sees_85 ?_
      refine lv_bipush (v := 10) hx hb dX1_sees_86 (by decide) ?_
      refine lv_idiv hx hb dX1_sees_88 (by decide) ?_
      refine lv_icmp_gt (tgt := 110) hx hb dX1_sees_89 (by decide) (fun c89 => ?_) (fun c89 => ?_)
      · refine lv_iconst (v := 0) hx hb dX1_sees_110 (by decide) ?_
        exact r_zret CF hr hlk hH hS rfl dX1_sees_111 ⟨by simp [seesF, cmC, b2i, ← key, c17, c60, c89], rfl⟩
      · refine lv_aload_n hx hb dX1_sees_92 rfl (lv_at hl 3 rfl) ?_
        refine lv_aload_n hx hb dX1_sees_93 rfl (lv_at hl 4 rfl) ?_
        refine lv_iload_n hx hb dX1_sees_94 rfl (lv_at hl 5 rfl) ?_
        refine lv_iload_n hx hb dX1_sees_95 rfl (lv_at hl 6 rfl) ?_
        refine lv_iload hx hb dX1_sees_96 (lv_at hl 7 rfl) ?_
        refine lv_iload hx hb dX1_sees_98 (lv_at hl 8 rfl) ?_
        refine r_cR hS (r_runV (n := 5) (As := [.ref (G.2.1 21), .int (nI pr), .int (nI pc), .int (nI r), .int (nI c)]) (rest := []) CF hK hH (c_X1_isLineFree l G σ pr pc r c h1 h2 h3 h4) gX1_sees_X1_isLineFree rfl rfl rfl rfl (by decide +kernel) ⟨⟨Nat.le_of_ble_eq_true rfl, Nat.le_of_ble_eq_true rfl⟩, Nat.le_of_ble_eq_true rfl, Nat.le_of_ble_eq_true rfl⟩ 23 rfl (Nat.le_of_ble_eq_true rfl) rfl rfl rfl hl.1 rfl (Nat.le_of_ble_eq_true rfl) dX1_sees_100) (fun H locs hH hS => ?_)
        refine r_ifeqB (tgt := 110) hx hb dX1_sees_103 (by decide) (fun c103 => ?_) (fun c103 => ?_)
        · refine lv_iconst (v := 0) hx hb dX1_sees_110 (by decide) ?_
          exact r_zret CF hr hlk hH hS rfl dX1_sees_111 ⟨by simp [seesF, cmC, b2i, ← key, c17, c60, c89, c103], rfl⟩
        · refine lv_iconst (v := 1) hx hb dX1_sees_106 (by decide) ?_
          refine lv_goto (tgt := 111) hx hb dX1_sees_107 (by decide) ?_
          exact r_zret CF hr hlk hH hS rfl dX1_sees_111 ⟨by simp [seesF, cmC, b2i, ← key, c17, c60, c89, c103], rfl⟩
  · refine lv_iconst (v := 0) hx hb dX1_sees_20 (by decide) ?_
    exact r_zret CF hr hlk hH hS rfl dX1_sees_21 ⟨by simp [seesF, cmC, b2i, ← key, c17], rfl⟩
end
section
/-! ===== an int in a range of nats ===== -/
def inB (x : Int32) (n : Nat) : Bool := !decide (x < 0) && !decide (nI n ≤ x)
abbrev NN (x : Int32) : Nat := x.toNatClampNeg
theorem inB_f {x : Int32} {n : Nat} (h : x < 0 ∨ nI n ≤ x) : inB x n = false := by
  unfold inB
  rcases h with h | h <;> simp [h]
theorem inB_t {x : Int32} {n j : Nat} (hj : j < n) (h : x = nI j) (hn : n < 2 ^ 31) : inB x n = true := by
  subst h
  unfold inB
  simp [nI_pos (show j < 2 ^ 31 by omega), nI_ge hj hn]
theorem inB_of {x : Int32} {n : Nat} (h : inB x n = true) (hn : n < 2 ^ 31) : ∃ j : Nat, j < n ∧ x = nI j := by
  unfold inB at h
  simp only [Bool.and_eq_true, Bool.not_eq_true', decide_eq_false_iff_not] at h
  exact ((pk_ix x hn).resolve_left h.1).resolve_left h.2
theorem N_of {x : Int32} {j : Nat} (h : x = nI j) (hj : j < 2 ^ 31) : NN x = j := by rw [h]; exact nI_clamp hj
theorem isC_eq {σ : Sg} {R C : Nat} (hR : σ 21 0 = nI R) (hC : σ 21 1 = nI C) (x y : Int32) : isC σ x y = (inB x R && inB y C) := by
  unfold isC inB
  rw [hR, hC]
  simp only [Bool.and_assoc]
theorem inC_of {x y : Int32} {R C : Nat} (h : (inB x R && inB y C) = true) (hR : R ≤ 10) (hC : C ≤ 16) : ∃ r c : Nat, r < R ∧ c < C ∧ x = nI r ∧ y = nI c ∧ NN x = r ∧ NN y = c := by
  rw [Bool.and_eq_true] at h
  obtain ⟨r, h1, h2⟩ := inB_of h.1 (by omega)
  obtain ⟨c, h3, h4⟩ := inB_of h.2 (by omega)
  exact ⟨r, c, h1, h3, h2, h4, N_of h2 (by omega), N_of h4 (by omega)⟩
theorem isW_of {x : Int32} {a b : Nat} (h : isW x (nI a) (nI b) = true) (ha : a < 2 ^ 31) (hb : b < 2 ^ 31) : ∃ j : Nat, a ≤ j ∧ j ≤ b ∧ x = nI j ∧ NN x = j := by
  unfold isW at h
  simp only [Bool.and_eq_true, Bool.not_eq_true', decide_eq_false_iff_not] at h
  have h0 : ¬ x < 0 := fun q => h.1 (by have := nI_pos' ha; grind)
  obtain ⟨j, hj, rfl⟩ := nI_of h0
  refine ⟨j, ?_, ?_, rfl, nI_clamp hj⟩
  · exact Nat.le_of_not_lt (fun q => h.1 (nI_lt q ha))
  · exact Nat.le_of_not_lt (fun q => h.2 (nI_lt q hj))
end
section
theorem quo_nI {a d : Nat} (ha : a < 2 ^ 31) (h0 : 0 < d) (hd : d < 2 ^ 31) : quo (nI a) (nI d) = nI (a / d) := by
  unfold quo
  rw [if_neg (nI_nle h0 hd), pk_div ha h0 hd]
theorem ph_nI {σ : Sg} {k : Nat} {q : S4} (hv : VS σ k q) : quo (σ k 2 - σ k 1) (σ k 3) + 1 = nI (phF q) := by
  obtain ⟨h0, h1, h2, h3, h4, h5, h6, h7, h8⟩ := hv
  rw [h1, h2, h3, pk_sub h5, quo_nI (by omega) (by omega) (by omega)]
  exact nI_1 _

set_option maxRecDepth 100000 in
set_option maxHeartbeats 4000000 in
theorem c_X5_put (l : Launch) (G : Gm) (σ : Sg) (k : Nat) (hk : k < 16) (a b c d : Int32) : Met l yX5_put wsX5_put (rmO 0 0) (PP G [.ref (G.2.1 k), .int a, .int b, .int c, .int d] σ) (QV G (VV (u2 (u2 (u2 (u2 σ k 0 a) k 1 b) k 2 c) k 3 d))) 0 0 (fr G) := by
  refine r_start (cc := cX5_put) (maxL := 5) (ret := none) (by decide) rfl (Nat.le_of_ble_eq_true rfl) ?_
  intro pz ez sz mz below meth cz ls CF hr hlk hK hH hS hl
  have CF : CallFix pz mz cz cX5_put 5 sz (List.toArray [.ref (G.2.1 k), .int a, .int b, .int c, .int d]) wsX5_put RX5 := CF
  have hx := CF.1
  have hb := CF.2.1
  have hown := CF.2.2.2.1
  have hts := CF.2.2.2.2
  have hl : lv_has ls 5 [(0, .ref (G.2.1 k)), (1, .int a), (2, .int b), (3, .int c), (4, .int d)] := hl
  have K1 := hts _ (List.mem_of_getElem? (i := 1) rfl)
  have K2 := hts _ (List.mem_of_getElem? (i := 2) rfl)
  have K3 := hts _ (List.mem_of_getElem? (i := 3) rfl)
  have K4 := hts _ (List.mem_of_getElem? (i := 4) rfl)
  have JX5 : ∀ w ∈ wsX50, w ∈ wsX5_put := in_r _ [5, 6, 7, 8] (by decide +kernel)
  refine lv_aload_n hx hb dX5_put_0 rfl (lv_at hl 0 rfl) ?_
  refine lv_iload_n hx hb dX5_put_1 rfl (lv_at hl 1 rfl) ?_
  refine r_put CF hK hH hS k (by omega) (we_s G hk _) rfl JX5 tyX5 tyX5_ok nmX5 0 (by decide) K1 rfl (by decide +kernel) (Nat.le_of_ble_eq_true rfl) (by rw [we_s G hk]; rfl) dX5_put_2 (fun H locs hH hS => ?_)
  refine lv_aload_n hx hb dX5_put_5 rfl (lv_at hl 0 rfl) ?_
  refine lv_iload_n hx hb dX5_put_6 rfl (lv_at hl 2 rfl) ?_
  refine r_put CF hK hH hS k (by omega) (we_s G hk _) rfl JX5 tyX5 tyX5_ok nmX5 1 (by decide) K2 rfl (by decide +kernel) (Nat.le_of_ble_eq_true rfl) (by rw [we_s G hk]; rfl) dX5_put_7 (fun H locs hH hS => ?_)
  refine lv_aload_n hx hb dX5_put_10 rfl (lv_at hl 0 rfl) ?_
  refine lv_iload_n hx hb dX5_put_11 rfl (lv_at hl 3 rfl) ?_
  refine r_put CF hK hH hS k (by omega) (we_s G hk _) rfl JX5 tyX5 tyX5_ok nmX5 2 (by decide) K3 rfl (by decide +kernel) (Nat.le_of_ble_eq_true rfl) (by rw [we_s G hk]; rfl) dX5_put_12 (fun H locs hH hS => ?_)
  refine lv_aload_n hx hb dX5_put_15 rfl (lv_at hl 0 rfl) ?_
  refine lv_iload hx hb dX5_put_16 (lv_at hl 4 rfl) ?_
  refine r_put CF hK hH hS k (by omega) (we_s G hk _) rfl JX5 tyX5 tyX5_ok nmX5 3 (by decide) K4 rfl (by decide +kernel) (Nat.le_of_ble_eq_true rfl) (by rw [we_s G hk]; rfl) dX5_put_18 (fun H locs hH hS => ?_)
  exact r_vret CF hr hlk hH hS dX5_put_21 rfl

set_option maxRecDepth 100000 in
set_option maxHeartbeats 4000000 in
theorem c_X5_photos (l : Launch) (G : Gm) (σ : Sg) (k : Nat) (hk : k < 16) (q : S4) (hv : VS σ k q) : Met l yX5_photos wsX5_photos (rmO 1 21) (PP G [.ref (G.2.1 k)] σ) (QI G (RV (nI (phF q)) σ)) 0 0 (fr G) := by
  refine r_start (cc := cX5_photos) (maxL := 1) (ret := (some .int)) (by decide) rfl (Nat.le_of_ble_eq_true rfl) ?_
  intro pz ez sz mz below meth cz ls CF hr hlk hK hH hS hl
  have CF : CallFix pz mz cz cX5_photos 1 sz (List.toArray [.ref (G.2.1 k)]) wsX5_photos RX5 := CF
  have hx := CF.1
  have hb := CF.2.1
  have hown := CF.2.2.2.1
  have hts := CF.2.2.2.2
  have hl : lv_has ls 1 [(0, .ref (G.2.1 k))] := hl
  have K1 := hts _ (List.mem_of_getElem? (i := 1) rfl)
  have K2 := hts _ (List.mem_of_getElem? (i := 2) rfl)
  have K3 := hts _ (List.mem_of_getElem? (i := 3) rfl)
  have K4 := hts _ (List.mem_of_getElem? (i := 4) rfl)
  have K5 := hts _ (List.mem_of_getElem? (i := 5) rfl)
  have JX5 : ∀ w ∈ wsX50, w ∈ wsX5_photos := in_r _ [7, 8, 9, 10] (by decide +kernel)
  refine lv_aload_n hx hb dX5_photos_0 rfl (lv_at hl 0 rfl) ?_
  refine r_get CF hK hH k (by omega) (we_s G hk _) rfl JX5 2 (by decide) K1 rfl dX5_photos_1 ?_
  refine lv_aload_n hx hb dX5_photos_4 rfl (lv_at hl 0 rfl) ?_
  refine r_get CF hK hH k (by omega) (we_s G hk _) rfl JX5 1 (by decide) K2 rfl dX5_photos_5 ?_
  refine lv_isub hx hb dX5_photos_8 ?_
  refine lv_aload_n hx hb dX5_photos_9 rfl (lv_at hl 0 rfl) ?_
  refine r_get CF hK hH k (by omega) (we_s G hk _) rfl JX5 3 (by decide) K3 rfl dX5_photos_10 ?_
  refine r_cR hS (r_runN (n := 2) (As := [.int ((σ k 2) - (σ k 1)), .int (σ k 3)]) (rest := []) CF hK hH (c_X8_quotient l G σ ((σ k 2) - (σ k 1)) (σ k 3)) gX5_photos_X8_quotient_n22 rfl rfl rfl hK.2.2.2.1 K5 K4 (by decide +kernel) ⟨⟨Nat.le_of_ble_eq_true rfl, Nat.le_of_ble_eq_true rfl⟩, Nat.le_of_ble_eq_true rfl, Nat.le_of_ble_eq_true rfl⟩ rfl hl.1 rfl (Nat.le_of_ble_eq_true rfl) dX5_photos_13) (fun H locs hH hS => ?_)
  refine lv_iconst (v := 1) hx hb dX5_photos_16 (by decide) ?_
  refine lv_iadd hx hb dX5_photos_17 ?_
  exact r_iret CF hr hlk hH hS dX5_photos_18 ⟨ph_nI hv, rfl⟩

def hpB (x : Int32) (q : S4) : Bool := !decide (x < 0) && !decide (nI (phF q) ≤ x)

set_option maxRecDepth 100000 in
set_option maxHeartbeats 4000000 in
theorem c_X5_hasPhoto (l : Launch) (G : Gm) (σ : Sg) (k : Nat) (hk : k < 16) (q : S4) (hv : VS σ k q) (x : Int32) : Met l yX5_hasPhoto wsX5_hasPhoto (rmO 2 41) (PP G [.ref (G.2.1 k), .int x] σ) (QI G (RV (b2i (hpB x q)) σ)) 0 0 (fr G) := by
  refine r_start (cc := cX5_hasPhoto) (maxL := 2) (ret := (some .boolean)) (by decide) rfl (Nat.le_of_ble_eq_true rfl) ?_
  intro pz ez sz mz below meth cz ls CF hr hlk hK hH hS hl
  have CF : CallFix pz mz cz cX5_hasPhoto 2 sz (List.toArray [.ref (G.2.1 k), .int x]) wsX5_hasPhoto RX5 := CF
  have hx := CF.1
  have hb := CF.2.1
  have hown := CF.2.2.2.1
  have hts := CF.2.2.2.2
  have hl : lv_has ls 2 [(0, .ref (G.2.1 k)), (1, .int x)] := hl
  refine lv_iload_n hx hb dX5_hasPhoto_0 rfl (lv_at hl 1 rfl) ?_
  refine lv_if_lt (tgt := 16) hx hb dX5_hasPhoto_1 (by decide) (fun c1 => ?_) (fun c1 => ?_)
  · refine lv_iconst (v := 0) hx hb dX5_hasPhoto_16 (by decide) ?_
    exact r_zret CF hr hlk hH hS rfl dX5_hasPhoto_17 ⟨by simp [hpB, b2i, c1], rfl⟩
  · refine lv_iload_n hx hb dX5_hasPhoto_4 rfl (lv_at hl 1 rfl) ?_
    refine lv_aload_n hx hb dX5_hasPhoto_5 rfl (lv_at hl 0 rfl) ?_
    refine r_cR hS (r_runV (n := 0) (As := []) (rest := [.int x]) CF hK hH (c_X5_photos l G σ k hk q hv) gX5_hasPhoto_X5_photos rfl rfl rfl rfl (by decide +kernel) ⟨⟨Nat.le_of_ble_eq_true rfl, Nat.le_of_ble_eq_true rfl⟩, Nat.le_of_ble_eq_true rfl, Nat.le_of_ble_eq_true rfl⟩ k rfl (by omega) (we_s G hk _) rfl rfl hl.1 rfl (Nat.le_of_ble_eq_true rfl) dX5_hasPhoto_6) (fun H locs hH hS => ?_)
    refine lv_icmp_ge (tgt := 16) hx hb dX5_hasPhoto_9 (by decide) (fun c9 => ?_) (fun c9 => ?_)
    · refine lv_iconst (v := 0) hx hb dX5_hasPhoto_16 (by decide) ?_
      exact r_zret CF hr hlk hH hS rfl dX5_hasPhoto_17 ⟨by simp [hpB, b2i, c1, c9], rfl⟩
    · refine lv_iconst (v := 1) hx hb dX5_hasPhoto_12 (by decide) ?_
      refine lv_goto (tgt := 17) hx hb dX5_hasPhoto_13 (by decide) ?_
      exact r_zret CF hr hlk hH hS rfl dX5_hasPhoto_17 ⟨by simp [hpB, b2i, c1, c9], rfl⟩

set_option maxRecDepth 100000 in
set_option maxHeartbeats 4000000 in
theorem c_X5_columnOf (l : Launch) (G : Gm) (σ : Sg) (k : Nat) (hk : k < 16) (q : S4) (hv : VS σ k q) (j : Nat) : Met l yX5_columnOf wsX5_columnOf (rmO 0 0) (PP G [.ref (G.2.1 k), .int (nI j)] σ) (QI G (RV (nI (q.2.1 + j * q.2.2.2)) σ)) 0 0 (fr G) := by
  refine r_start (cc := cX5_columnOf) (maxL := 2) (ret := (some .int)) (by decide) rfl (Nat.le_of_ble_eq_true rfl) ?_
  intro pz ez sz mz below meth cz ls CF hr hlk hK hH hS hl
  have CF : CallFix pz mz cz cX5_columnOf 2 sz (List.toArray [.ref (G.2.1 k), .int (nI j)]) wsX5_columnOf RX5 := CF
  have hx := CF.1
  have hb := CF.2.1
  have hown := CF.2.2.2.1
  have hts := CF.2.2.2.2
  have hl : lv_has ls 2 [(0, .ref (G.2.1 k)), (1, .int (nI j))] := hl
  have K1 := hts _ (List.mem_of_getElem? (i := 1) rfl)
  have K2 := hts _ (List.mem_of_getElem? (i := 2) rfl)
  have JX5 : ∀ w ∈ wsX50, w ∈ wsX5_columnOf := in_r _ [3, 4, 5, 6] (by decide +kernel)
  refine lv_aload_n hx hb dX5_columnOf_0 rfl (lv_at hl 0 rfl) ?_
  refine r_get CF hK hH k (by omega) (we_s G hk _) rfl JX5 1 (by decide) K1 rfl dX5_columnOf_1 ?_
  refine lv_iload_n hx hb dX5_columnOf_4 rfl (lv_at hl 1 rfl) ?_
  refine lv_aload_n hx hb dX5_columnOf_5 rfl (lv_at hl 0 rfl) ?_
  refine r_get CF hK hH k (by omega) (we_s G hk _) rfl JX5 3 (by decide) K2 rfl dX5_columnOf_6 ?_
  refine lv_imul hx hb dX5_columnOf_9 ?_
  refine lv_iadd hx hb dX5_columnOf_10 ?_
  exact r_iret CF hr hlk hH hS dX5_columnOf_11 ⟨by rw [hv.2.1, hv.2.2.2.1, pk_mul, nI_add], rfl⟩

set_option maxRecDepth 100000 in
set_option maxHeartbeats 4000000 in
theorem c_X5_entryColumn (l : Launch) (G : Gm) (σ : Sg) (k : Nat) (hk : k < 16) (q : S4) (hv : VS σ k q) (e : Bool) : Met l yX5_entryColumn wsX5_entryColumn (rmO 0 0) (PP G [.ref (G.2.1 k), .int (b2i e)] σ) (QI G (RV (nI (if e then q.2.1 else q.2.2.1)) σ)) 0 0 (fr G) := by
  refine r_start (cc := cX5_entryColumn) (maxL := 2) (ret := (some .int)) (by decide) rfl (Nat.le_of_ble_eq_true rfl) ?_
  intro pz ez sz mz below meth cz ls CF hr hlk hK hH hS hl
  have CF : CallFix pz mz cz cX5_entryColumn 2 sz (List.toArray [.ref (G.2.1 k), .int (b2i e)]) wsX5_entryColumn RX5 := CF
  have hx := CF.1
  have hb := CF.2.1
  have hown := CF.2.2.2.1
  have hts := CF.2.2.2.2
  have hl : lv_has ls 2 [(0, .ref (G.2.1 k)), (1, .int (b2i e))] := hl
  have K1 := hts _ (List.mem_of_getElem? (i := 1) rfl)
  have K2 := hts _ (List.mem_of_getElem? (i := 2) rfl)
  have JX5 : ∀ w ∈ wsX50, w ∈ wsX5_entryColumn := in_r _ [3, 4, 5, 6] (by decide +kernel)
  refine lv_iload_n hx hb dX5_entryColumn_0 rfl (lv_at hl 1 rfl) ?_
  refine r_ifeqB (tgt := 11) hx hb dX5_entryColumn_1 (by decide) (fun c1 => ?_) (fun c1 => ?_)
  · refine lv_aload_n hx hb dX5_entryColumn_11 rfl (lv_at hl 0 rfl) ?_
    refine r_get CF hK hH k (by omega) (we_s G hk _) rfl JX5 2 (by decide) K2 rfl dX5_entryColumn_12 ?_
    exact r_iret CF hr hlk hH hS dX5_entryColumn_15 ⟨by simp [c1]; first | exact hv.2.1 | exact hv.2.2.1, rfl⟩
  · refine lv_aload_n hx hb dX5_entryColumn_4 rfl (lv_at hl 0 rfl) ?_
    refine r_get CF hK hH k (by omega) (we_s G hk _) rfl JX5 1 (by decide) K1 rfl dX5_entryColumn_5 ?_
    refine lv_goto (tgt := 15) hx hb dX5_entryColumn_8 (by decide) ?_
    exact r_iret CF hr hlk hH hS dX5_entryColumn_15 ⟨by simp [c1]; first | exact hv.2.1 | exact hv.2.2.1, rfl⟩

set_option maxRecDepth 100000 in
set_option maxHeartbeats 4000000 in
theorem c_X5_exitColumn (l : Launch) (G : Gm) (σ : Sg) (k : Nat) (hk : k < 16) (q : S4) (hv : VS σ k q) (e : Bool) : Met l yX5_exitColumn wsX5_exitColumn (rmO 0 0) (PP G [.ref (G.2.1 k), .int (b2i e)] σ) (QI G (RV (nI (if e then q.2.2.1 else q.2.1)) σ)) 0 0 (fr G) := by
  refine r_start (cc := cX5_exitColumn) (maxL := 2) (ret := (some .int)) (by decide) rfl (Nat.le_of_ble_eq_true rfl) ?_
  intro pz ez sz mz below meth cz ls CF hr hlk hK hH hS hl
  have CF : CallFix pz mz cz cX5_exitColumn 2 sz (List.toArray [.ref (G.2.1 k), .int (b2i e)]) wsX5_exitColumn RX5 := CF
  have hx := CF.1
  have hb := CF.2.1
  have hown := CF.2.2.2.1
  have hts := CF.2.2.2.2
  have hl : lv_has ls 2 [(0, .ref (G.2.1 k)), (1, .int (b2i e))] := hl
  have K1 := hts _ (List.mem_of_getElem? (i := 1) rfl)
  have K2 := hts _ (List.mem_of_getElem? (i := 2) rfl)
  have JX5 : ∀ w ∈ wsX50, w ∈ wsX5_exitColumn := in_r _ [3, 4, 5, 6] (by decide +kernel)
  refine lv_iload_n hx hb dX5_exitColumn_0 rfl (lv_at hl 1 rfl) ?_
  refine r_ifeqB (tgt := 11) hx hb dX5_exitColumn_1 (by decide) (fun c1 => ?_) (fun c1 => ?_)
  · refine lv_aload_n hx hb dX5_exitColumn_11 rfl (lv_at hl 0 rfl) ?_
    refine r_get CF hK hH k (by omega) (we_s G hk _) rfl JX5 1 (by decide) K2 rfl dX5_exitColumn_12 ?_
    exact r_iret CF hr hlk hH hS dX5_exitColumn_15 ⟨by simp [c1]; first | exact hv.2.1 | exact hv.2.2.1, rfl⟩
  · refine lv_aload_n hx hb dX5_exitColumn_4 rfl (lv_at hl 0 rfl) ?_
    refine r_get CF hK hH k (by omega) (we_s G hk _) rfl JX5 2 (by decide) K1 rfl dX5_exitColumn_5 ?_
    refine lv_goto (tgt := 15) hx hb dX5_exitColumn_8 (by decide) ?_
    exact r_iret CF hr hlk hH hS dX5_exitColumn_15 ⟨by simp [c1]; first | exact hv.2.1 | exact hv.2.2.1, rfl⟩

set_option maxRecDepth 100000 in
set_option maxHeartbeats 4000000 in
theorem c_X5_sees (l : Launch) (G : Gm) (σ : Sg) (k : Nat) (hk : k < 16) (q : S4) (hv : VS σ k q) (r c : Nat) (h3 : r < 10) (h4 : c < 16) (hh : hB (σ 22) (σ 23 0)) : Met l yX5_sees wsX5_sees (rmO 3 84) (PP G [.ref (G.2.1 k), .ref (G.2.1 21), .ref (G.2.1 23), .int (nI r), .int (nI c)] σ) (QI G (RV (b2i (ssF (σ 22) (cmC σ) q r c)) σ)) 0 0 (fr G) := by
  refine r_start (cc := cX5_sees) (maxL := 7) (ret := (some .boolean)) (by decide) rfl (Nat.le_of_ble_eq_true rfl) ?_
  intro pz ez sz mz below meth cz ls CF hr hlk hK hH hS hl
  have CF : CallFix pz mz cz cX5_sees 7 sz (List.toArray [.ref (G.2.1 k), .ref (G.2.1 21), .ref (G.2.1 23), .int (nI r), .int (nI c)]) wsX5_sees RX5 := CF
  have hx := CF.1
  have hb := CF.2.1
  have hown := CF.2.2.2.1
  have hts := CF.2.2.2.2
  have hl : lv_has ls 7 [(0, .ref (G.2.1 k)), (1, .ref (G.2.1 21)), (2, .ref (G.2.1 23)), (3, .int (nI r)), (4, .int (nI c))] := hl
  have K1 := hts _ (List.mem_of_getElem? (i := 1) rfl)
  have JX5 : ∀ w ∈ wsX50, w ∈ wsX5_sees := in_r _ [47, 48, 49, 50] (by decide +kernel)
  have hp := phF_le hv.2.2.2.2
  have hq := hv.2.2.2.2
  refine lv_aload_n hx hb dX5_sees_0 rfl (lv_at hl 0 rfl) ?_
  refine r_cR hS (r_runV (n := 0) (As := []) (rest := []) CF hK hH (c_X5_photos l G σ k hk q hv) gX5_sees_X5_photos rfl rfl rfl rfl (by decide +kernel) ⟨⟨Nat.le_of_ble_eq_true rfl, Nat.le_of_ble_eq_true rfl⟩, Nat.le_of_ble_eq_true rfl, Nat.le_of_ble_eq_true rfl⟩ k rfl (by omega) (we_s G hk _) rfl rfl hl.1 rfl (Nat.le_of_ble_eq_true rfl) dX5_sees_1) (fun H locs hH hS => ?_)
  refine lv_istore (lv' := [(5, .int (nI (phF q))), (0, .ref (G.2.1 k)), (1, .ref (G.2.1 21)), (2, .ref (G.2.1 23)), (3, .int (nI r)), (4, .int (nI c))]) hx hb dX5_sees_4 hl (by decide) rfl (fun ls hl => ?_)
  refine lv_iconst (v := 0) hx hb dX5_sees_6 (by decide) ?_
  refine lv_istore (lv' := [(6, .int (0 : Int32)), (5, .int (nI (phF q))), (0, .ref (G.2.1 k)), (1, .ref (G.2.1 21)), (2, .ref (G.2.1 23)), (3, .int (nI r)), (4, .int (nI c))]) hx hb dX5_sees_7 hl (by decide) rfl (fun ls hl => ?_)
  have lp9 : ∀ (fu : Nat) (i : Nat) (H : Heap) (locs : List Loc) (ls : Array Slot), (phF q + 1 ≤ i + fu) → (i ≤ phF q) → (cnt (fun p => psF (σ 22) (cmC σ) q p r c) i = 0) → Hp G σ H → va_S (fr G) sz.heap H locs → lv_has ls 7 [(0, .ref (G.2.1 k)), (1, .ref (G.2.1 21)), (2, .ref (G.2.1 23)), (3, .int (nI r)), (4, .int (nI c)), (5, .int (nI (phF q))), (6, .int (nI i))] → W pz l ez (rmO 3 84) sz mz (List.toArray [.ref (G.2.1 k), .ref (G.2.1 21), .ref (G.2.1 23), .int (nI r), .int (nI c)]) below meth cz H locs 0 0 (MQ below (QI G (RV (b2i (ssF (σ 22) (cmC σ) q r c)) σ)) (List.toArray [.ref (G.2.1 k), .ref (G.2.1 21), .ref (G.2.1 23), .int (nI r), .int (nI c)]) sz 0 0 (fr G)) (F0 mz 9 ls []) := by
    intro fu
    induction fu with
    | zero => intros; omega
    | succ fu ih9 =>
      intro i H locs ls hf hi hz hH hS hl
      refine lv_iload hx hb dX5_sees_9 (lv_at hl 6 rfl) ?_
      refine lv_iload hx hb dX5_sees_11 (lv_at hl 5 rfl) ?_
      refine lv_icmp_ge (tgt := 45) hx hb dX5_sees_13 (by decide) (fun c13 => ?_) (fun c13 => ?_)
      · have c13 : (phF q) ≤ i := (nI_leI (a := (phF q)) (b := i) (by omega) (by omega)).mp c13
        refine lv_iconst (v := 0) hx hb dX5_sees_45 (by decide) ?_
        exact r_zret CF hr hlk hH hS rfl dX5_sees_46 ⟨by have e : i = phF q := (by omega); subst e; simp [ssF, b2i, hz], rfl⟩
      · have c13 : i < (phF q) := Nat.lt_of_not_le (fun zq => c13 ((nI_leI (a := (phF q)) (b := i) (by omega) (by omega)).mpr zq))
        have hcol := ph_col hv.2.2.2.2 c13
        refine lv_aload_n hx hb dX5_sees_16 rfl (lv_at hl 2 rfl) ?_
        refine lv_aload_n hx hb dX5_sees_17 rfl (lv_at hl 1 rfl) ?_
        refine lv_aload_n hx hb dX5_sees_18 rfl (lv_at hl 0 rfl) ?_
        refine r_get CF hK hH k (by omega) (we_s G hk _) rfl JX5 0 (by decide) K1 rfl dX5_sees_19 ?_
        refine r_top (show (σ k 0 : Int32) = nI q.1 from hv.1) ?_
        refine lv_aload_n hx hb dX5_sees_22 rfl (lv_at hl 0 rfl) ?_
        refine lv_iload hx hb dX5_sees_23 (lv_at hl 6 rfl) ?_
        refine r_cR hS (r_runV (n := 1) (As := [.int (nI i)]) (rest := [.int (nI q.1), .ref (G.2.1 21), .ref (G.2.1 23)]) CF hK hH (c_X5_columnOf l G σ k hk q hv i) gX5_sees_X5_columnOf rfl rfl rfl rfl (by decide +kernel) ⟨⟨Nat.le_of_ble_eq_true rfl, Nat.le_of_ble_eq_true rfl⟩, Nat.le_of_ble_eq_true rfl, Nat.le_of_ble_eq_true rfl⟩ k rfl (by omega) (we_s G hk _) rfl rfl hl.1 rfl (Nat.le_of_ble_eq_true rfl) dX5_sees_25) (fun H locs hH hS => ?_)
        refine lv_iload_n hx hb dX5_sees_28 rfl (lv_at hl 3 rfl) ?_
        refine lv_iload hx hb dX5_sees_29 (lv_at hl 4 rfl) ?_
        refine r_cR hS (r_runV (n := 5) (As := [.ref (G.2.1 21), .int (nI q.1), .int (nI (q.2.1 + i * q.2.2.2)), .int (nI r), .int (nI c)]) (rest := []) CF hK hH (c_X1_sees l G σ q.1 (q.2.1 + i * q.2.2.2) r c hq.1 (by have := hq.2.2.1; omega) h3 h4 hh) gX5_sees_X1_sees rfl rfl rfl rfl (by decide +kernel) ⟨⟨Nat.le_of_ble_eq_true rfl, Nat.le_of_ble_eq_true rfl⟩, Nat.le_of_ble_eq_true rfl, Nat.le_of_ble_eq_true rfl⟩ 23 rfl (Nat.le_of_ble_eq_true rfl) rfl rfl rfl hl.1 rfl (Nat.le_of_ble_eq_true rfl) dX5_sees_31) (fun H locs hH hS => ?_)
        refine r_ifeqB (tgt := 39) hx hb dX5_sees_34 (by decide) (fun c34 => ?_) (fun c34 => ?_)
        · refine lv_iinc (v := nI (i + 1)) (lv' := [(6, .int (nI (i + 1))), (0, .ref (G.2.1 k)), (1, .ref (G.2.1 21)), (2, .ref (G.2.1 23)), (3, .int (nI r)), (4, .int (nI c)), (5, .int (nI (phF q)))]) hx hb dX5_sees_39 hl (k := 6) rfl (nI_1 _) (by decide) rfl (fun ls hl => ?_)
          refine lv_goto (tgt := 9) hx hb dX5_sees_42 (by decide) ?_
          exact ih9 (i + 1) _ _ ls (by omega) (by omega) (by rw [cnt_f (p := fun p => psF (σ 22) (cmC σ) q p r c) c34, hz]) hH hS (lv_sub hl [1, 2, 3, 4, 5, 6, 0] rfl)
        · refine lv_iconst (v := 1) hx hb dX5_sees_37 (by decide) ?_
          exact r_zret CF hr hlk hH hS rfl dX5_sees_38 ⟨by have := cnt_pos (p := fun p => psF (σ 22) (cmC σ) q p r c) (i := i) c34 c13; simp [ssF, b2i, this], rfl⟩
  exact lp9 (phF q + 1) 0 _ _ ls (by omega) (by omega) rfl hH hS (lv_sub hl [2, 3, 4, 5, 6, 1, 0] rfl)

set_option maxRecDepth 100000 in
set_option maxHeartbeats 4000000 in
theorem c_X6_clear (l : Launch) (G : Gm) (σ : Sg) (b : Nat) (hb2 : b < 2) : Met l yX6_clear wsX6_clear (rmO 0 0) (PP G [.ref (G.2.1 (16 + b))] σ) (QV G (VV (u2 σ (16 + b) 0 0))) 0 0 (fr G) := by
  refine r_start (cc := cX6_clear) (maxL := 1) (ret := none) (by decide) rfl (Nat.le_of_ble_eq_true rfl) ?_
  intro pz ez sz mz below meth cz ls CF hr hlk hK hH hS hl
  have CF : CallFix pz mz cz cX6_clear 1 sz (List.toArray [.ref (G.2.1 (16 + b))]) wsX6_clear RX6 := CF
  have hx := CF.1
  have hb := CF.2.1
  have hown := CF.2.2.2.1
  have hts := CF.2.2.2.2
  have hl : lv_has ls 1 [(0, .ref (G.2.1 (16 + b)))] := hl
  have K1 := hts _ (List.mem_of_getElem? (i := 1) rfl)
  have JX6 : ∀ w ∈ wsX60, w ∈ wsX6_clear := in_r _ [2, 3] (by decide +kernel)
  refine lv_aload_n hx hb dX6_clear_0 rfl (lv_at hl 0 rfl) ?_
  refine lv_iconst (v := 0) hx hb dX6_clear_1 (by decide) ?_
  refine r_put CF hK hH hS (16 + b) (by omega) (we_l G hb2 _) rfl JX6 tyX6 tyX6_ok nmX6 0 (by decide) K1 rfl (by decide +kernel) (Nat.le_of_ble_eq_true rfl) (by rw [we_l G hb2]; rfl) dX6_clear_2 (fun H locs hH hS => ?_)
  exact r_vret CF hr hlk hH hS dX6_clear_5 rfl

def fdP (G : Gm) (σ : Sg) (b n : Nat) (x : Int32) : Option Nat → Sg → Prop := fun o σ' => σ' = σ ∧ (((x < 0 ∨ nI n ≤ x) ∧ o = none) ∨ ∃ j : Nat, j < n ∧ x = nI j ∧ o = some (G.2.1 (8 * b + j)))

set_option maxRecDepth 100000 in
set_option maxHeartbeats 4000000 in
theorem c_X6_find (l : Launch) (G : Gm) (σ : Sg) (b : Nat) (hb2 : b < 2) (n : Nat) (hn : σ (16 + b) 0 = nI n) (hn8 : n ≤ 8) (x : Int32) : Met l yX6_find wsX6_find (rmO 0 0) (PP G [.ref (G.2.1 (16 + b)), .int x] σ) (QO G (fdP G σ b n x)) 0 0 (fr G) := by
  refine r_start (cc := cX6_find) (maxL := 2) (ret := (some (.object "AerialSurvey$Strip"))) (by decide) rfl (Nat.le_of_ble_eq_true rfl) ?_
  intro pz ez sz mz below meth cz ls CF hr hlk hK hH hS hl
  have CF : CallFix pz mz cz cX6_find 2 sz (List.toArray [.ref (G.2.1 (16 + b)), .int x]) wsX6_find RX6 := CF
  have hx := CF.1
  have hb := CF.2.1
  have hown := CF.2.2.2.1
  have hts := CF.2.2.2.2
  have hl : lv_has ls 2 [(0, .ref (G.2.1 (16 + b))), (1, .int x)] := hl
  have K1 := hts _ (List.mem_of_getElem? (i := 1) rfl)
  have K2 := hts _ (List.mem_of_getElem? (i := 2) rfl)
  have JX6 : ∀ w ∈ wsX60, w ∈ wsX6_find := in_r _ [3, 4] (by decide +kernel)
  refine lv_iload_n hx hb dX6_find_0 rfl (lv_at hl 1 rfl) ?_
  refine lv_if_lt (tgt := 21) hx hb dX6_find_1 (by decide) (fun c1 => ?_) (fun c1 => ?_)
  · refine lv_null hx hb dX6_find_21 ?_
    exact r_aret CF hr hlk hH hS none rfl dX6_find_22 ⟨rfl, Or.inl ⟨Or.inl c1, rfl⟩⟩
  · refine lv_iload_n hx hb dX6_find_4 rfl (lv_at hl 1 rfl) ?_
    refine lv_aload_n hx hb dX6_find_5 rfl (lv_at hl 0 rfl) ?_
    refine r_get CF hK hH (16 + b) (by omega) (we_l G hb2 _) rfl JX6 0 (by decide) K1 rfl dX6_find_6 ?_
    refine r_top (show (σ (16 + b) 0 : Int32) = nI n from hn) ?_
    refine lv_icmp_ge (tgt := 21) hx hb dX6_find_9 (by decide) (fun c9 => ?_) (fun c9 => ?_)
    · refine lv_null hx hb dX6_find_21 ?_
      exact r_aret CF hr hlk hH hS none rfl dX6_find_22 ⟨rfl, Or.inl ⟨Or.inr c9, rfl⟩⟩
    · obtain ⟨j, hj, hij⟩ := ((pk_ix x (n := n) (by omega)).resolve_left c1).resolve_left c9
      refine lv_aload_n hx hb dX6_find_12 rfl (lv_at hl 0 rfl) ?_
      refine r_get CF hK hH (16 + b) (by omega) (we_l G hb2 _) rfl JX6 1 (by decide) K2 rfl dX6_find_13 ?_
      refine lv_iload_n hx hb dX6_find_16 rfl (lv_at hl 1 rfl) ?_
      refine r_aald CF hK hH hb2 j hij (by omega) dX6_find_17 ?_
      refine lv_goto (tgt := 22) hx hb dX6_find_18 (by decide) ?_
      exact r_aret CF hr hlk hH hS (some (G.2.1 (8 * b + j))) rfl dX6_find_22 ⟨rfl, Or.inr ⟨j, hj, hij, rfl⟩⟩

def addF (σ : Sg) (b n : Nat) (a c d e : Int32) : Sg := u2 (u2 (u2 (u2 (u2 σ (8 * b + n) 0 a) (8 * b + n) 1 c) (8 * b + n) 2 d) (8 * b + n) 3 e) (16 + b) 0 (nI (n + 1))
theorem add_cnt (σ : Sg) {b n : Nat} (hb2 : b < 2) (hn : n < 8) (a c d e : Int32) : u2 (u2 (u2 (u2 σ (8 * b + n) 0 a) (8 * b + n) 1 c) (8 * b + n) 2 d) (8 * b + n) 3 e (16 + b) 0 = σ (16 + b) 0 := by
  have h : 16 + b ≠ 8 * b + n := by omega
  rw [u2_n _ _ _ h, u2_n _ _ _ h, u2_n _ _ _ h, u2_n _ _ _ h]

set_option maxRecDepth 100000 in
set_option maxHeartbeats 4000000 in
theorem c_X6_add (l : Launch) (G : Gm) (σ : Sg) (b : Nat) (hb2 : b < 2) (n : Nat) (hn : σ (16 + b) 0 = nI n) (hn8 : n ≤ 8) (x y z w : Int32) : Met l yX6_add wsX6_add (rmO 1 24) (PP G [.ref (G.2.1 (16 + b)), .int x, .int y, .int z, .int w] σ) (QI G (fun r σ' => if n = 8 then r = -5 ∧ σ' = σ else r = nI n ∧ σ' = addF σ b n x y z w)) 0 0 (fr G) := by
  refine r_start (cc := cX6_add) (maxL := 5) (ret := (some .int)) (by decide) rfl (Nat.le_of_ble_eq_true rfl) ?_
  intro pz ez sz mz below meth cz ls CF hr hlk hK hH hS hl
  have CF : CallFix pz mz cz cX6_add 5 sz (List.toArray [.ref (G.2.1 (16 + b)), .int x, .int y, .int z, .int w]) wsX6_add RX6 := CF
  have hx := CF.1
  have hb := CF.2.1
  have hown := CF.2.2.2.1
  have hts := CF.2.2.2.2
  have hl : lv_has ls 5 [(0, .ref (G.2.1 (16 + b))), (1, .int x), (2, .int y), (3, .int z), (4, .int w)] := hl
  have K1 := hts _ (List.mem_of_getElem? (i := 1) rfl)
  have K2 := hts _ (List.mem_of_getElem? (i := 2) rfl)
  have JX6 : ∀ w ∈ wsX60, w ∈ wsX6_add := in_r _ [12, 13] (by decide +kernel)
  refine lv_aload_n hx hb dX6_add_0 rfl (lv_at hl 0 rfl) ?_
  refine r_get CF hK hH (16 + b) (by omega) (we_l G hb2 _) rfl JX6 0 (by decide) K1 rfl dX6_add_1 ?_
  refine r_top (show (σ (16 + b) 0 : Int32) = nI n from hn) ?_
  refine lv_aload_n hx hb dX6_add_4 rfl (lv_at hl 0 rfl) ?_
  refine r_get CF hK hH (16 + b) (by omega) (we_l G hb2 _) rfl JX6 1 (by decide) K2 rfl dX6_add_5 ?_
  refine r_alen (v := 8) CF hK hH (18 + b) (by omega) (we_a G hb2 _) 2 rfl rfl dX6_add_8 ?_
  refine lv_icmp_lt (tgt := 15) hx hb dX6_add_9 (by decide) (fun c9 => ?_) (fun c9 => ?_)
  · have c9 : n < 8 := (nI_ltI (a := n) (b := 8) (by omega) (by omega)).mp c9
    refine lv_aload_n hx hb dX6_add_15 rfl (lv_at hl 0 rfl) ?_
    refine r_get CF hK hH (16 + b) (by omega) (we_l G hb2 _) rfl JX6 1 (by decide) K2 rfl dX6_add_16 ?_
    refine lv_aload_n hx hb dX6_add_19 rfl (lv_at hl 0 rfl) ?_
    refine r_get CF hK hH (16 + b) (by omega) (we_l G hb2 _) rfl JX6 0 (by decide) K1 rfl dX6_add_20 ?_
    refine r_top (show (σ (16 + b) 0 : Int32) = nI n from hn) ?_
    refine r_aald CF hK hH hb2 n rfl (by omega) dX6_add_23 ?_
    refine lv_iload_n hx hb dX6_add_24 rfl (lv_at hl 1 rfl) ?_
    refine lv_iload_n hx hb dX6_add_25 rfl (lv_at hl 2 rfl) ?_
    refine lv_iload_n hx hb dX6_add_26 rfl (lv_at hl 3 rfl) ?_
    refine lv_iload hx hb dX6_add_27 (lv_at hl 4 rfl) ?_
    refine r_cV hS (r_runV (n := 4) (As := [.int x, .int y, .int z, .int w]) (rest := []) CF hK hH (c_X5_put l G σ (8 * b + n) (by omega) x y z w) gX6_add_X5_put rfl rfl rfl rfl (by decide +kernel) ⟨⟨Nat.le_of_ble_eq_true rfl, Nat.le_of_ble_eq_true rfl⟩, Nat.le_of_ble_eq_true rfl, Nat.le_of_ble_eq_true rfl⟩ (8 * b + n) rfl (by omega) (we_s G (by omega) _) rfl rfl hl.1 rfl (Nat.le_of_ble_eq_true rfl) dX6_add_29) (fun H locs hH hS => ?_)
    refine lv_aload_n hx hb dX6_add_32 rfl (lv_at hl 0 rfl) ?_
    refine lv_dup hx hb dX6_add_33 rfl ?_
    refine r_get CF hK hH (16 + b) (by omega) (we_l G hb2 _) rfl JX6 0 (by decide) K1 rfl dX6_add_34 ?_
    refine r_top (show ((u2 (u2 (u2 (u2 σ (8 * b + n) 0 x) (8 * b + n) 1 y) (8 * b + n) 2 z) (8 * b + n) 3 w) (16 + b) 0 : Int32) = nI n from (by rw [add_cnt σ hb2 c9]; exact hn)) ?_
    refine lv_iconst (v := 1) hx hb dX6_add_37 (by decide) ?_
    refine lv_iadd hx hb dX6_add_38 ?_
    refine r_top (show (((nI n) + (1 : Int32)) : Int32) = nI (n + 1) from nI_1 n) ?_
    refine r_put CF hK hH hS (16 + b) (by omega) (we_l G hb2 _) rfl JX6 tyX6 tyX6_ok nmX6 0 (by decide) K1 rfl (by decide +kernel) (Nat.le_of_ble_eq_true rfl) (by rw [we_l G hb2]; rfl) dX6_add_39 (fun H locs hH hS => ?_)
    refine lv_aload_n hx hb dX6_add_42 rfl (lv_at hl 0 rfl) ?_
    refine r_get CF hK hH (16 + b) (by omega) (we_l G hb2 _) rfl JX6 0 (by decide) K1 rfl dX6_add_43 ?_
    refine r_top (show ((u2 (u2 (u2 (u2 (u2 σ (8 * b + n) 0 x) (8 * b + n) 1 y) (8 * b + n) 2 z) (8 * b + n) 3 w) (16 + b) 0 (nI (n + 1))) (16 + b) 0 : Int32) = nI (n + 1) from (u2_ss _ _ _ _)) ?_
    refine lv_iconst (v := 1) hx hb dX6_add_46 (by decide) ?_
    refine lv_isub hx hb dX6_add_47 ?_
    refine r_top (show (((nI (n + 1)) - (1 : Int32)) : Int32) = nI n from (by grind [nI_1 n])) ?_
    exact r_iret CF hr hlk hH hS dX6_add_48 (by rw [if_neg (by omega)]; exact ⟨rfl, rfl⟩)
  · have c9 : ¬ n < 8 := fun q => c9 ((nI_ltI (a := n) (b := 8) (by omega) (by omega)).mpr q)
    refine lv_bipush (v := (-5)) hx hb dX6_add_12 (by decide) ?_
    exact r_iret CF hr hlk hH hS dX6_add_14 (by rw [if_pos (by omega)]; exact ⟨rfl, rfl⟩)
end
section
def totF (sq : Nat → S4) : Nat → Nat
  | 0 => 0
  | i + 1 => totF sq i + phF (sq i)
theorem VSat {σ : Sg} {b n : Nat} {sq : Nat → S4} (hL : LSt σ b n sq) {i : Nat} (h : i < n) : VS σ (8 * b + i) (sq i) := hL.2.2 i h

set_option maxRecDepth 100000 in
set_option maxHeartbeats 4000000 in
theorem c_X6_photoTotal (l : Launch) (G : Gm) (σ : Sg) (b : Nat) (hb2 : b < 2) (n : Nat) (sq : Nat → S4) (hL : LSt σ b n sq) : Met l yX6_photoTotal wsX6_photoTotal (rmO 2 41) (PP G [.ref (G.2.1 (16 + b))] σ) (QI G (RV (nI (totF sq n)) σ)) 0 0 (fr G) := by
  refine r_start (cc := cX6_photoTotal) (maxL := 3) (ret := (some .int)) (by decide) rfl (Nat.le_of_ble_eq_true rfl) ?_
  intro pz ez sz mz below meth cz ls CF hr hlk hK hH hS hl
  have CF : CallFix pz mz cz cX6_photoTotal 3 sz (List.toArray [.ref (G.2.1 (16 + b))]) wsX6_photoTotal RX6 := CF
  have hx := CF.1
  have hb := CF.2.1
  have hown := CF.2.2.2.1
  have hts := CF.2.2.2.2
  have hl : lv_has ls 3 [(0, .ref (G.2.1 (16 + b)))] := hl
  have K1 := hts _ (List.mem_of_getElem? (i := 1) rfl)
  have K2 := hts _ (List.mem_of_getElem? (i := 2) rfl)
  have JX6 : ∀ w ∈ wsX60, w ∈ wsX6_photoTotal := in_r _ [14, 15] (by decide +kernel)
  have hn := hL.1
  have hn8 := hL.2.1
  refine lv_iconst (v := 0) hx hb dX6_photoTotal_0 (by decide) ?_
  refine lv_istore_n (lv' := [(1, .int (0 : Int32)), (0, .ref (G.2.1 (16 + b)))]) hx hb dX6_photoTotal_1 rfl hl (by decide) rfl (fun ls hl => ?_)
  refine lv_iconst (v := 0) hx hb dX6_photoTotal_2 (by decide) ?_
  refine lv_istore_n (lv' := [(2, .int (0 : Int32)), (1, .int (0 : Int32)), (0, .ref (G.2.1 (16 + b)))]) hx hb dX6_photoTotal_3 rfl hl (by decide) rfl (fun ls hl => ?_)
  have lp4 : ∀ (fu : Nat) (i : Nat) (x1 : Int32) (H : Heap) (locs : List Loc) (ls : Array Slot), (n + 1 ≤ i + fu) → (i ≤ n) → (x1 = nI (totF sq i)) → Hp G σ H → va_S (fr G) sz.heap H locs → lv_has ls 3 [(0, .ref (G.2.1 (16 + b))), (1, .int x1), (2, .int (nI i))] → W pz l ez (rmO 2 41) sz mz (List.toArray [.ref (G.2.1 (16 + b))]) below meth cz H locs 0 0 (MQ below (QI G (RV (nI (totF sq n)) σ)) (List.toArray [.ref (G.2.1 (16 + b))]) sz 0 0 (fr G)) (F0 mz 4 ls []) := by
    intro fu
    induction fu with
    | zero => intros; omega
    | succ fu ih4 =>
      intro i x1 H locs ls hf hi h1 hH hS hl
      refine lv_iload_n hx hb dX6_photoTotal_4 rfl (lv_at hl 2 rfl) ?_
      refine lv_aload_n hx hb dX6_photoTotal_5 rfl (lv_at hl 0 rfl) ?_
      refine r_get CF hK hH (16 + b) (by omega) (we_l G hb2 _) rfl JX6 0 (by decide) K1 rfl dX6_photoTotal_6 ?_
      refine r_top (show (σ (16 + b) 0 : Int32) = nI n from hn) ?_
      refine lv_icmp_ge (tgt := 30) hx hb dX6_photoTotal_9 (by decide) (fun c9 => ?_) (fun c9 => ?_)
      · have c9 : n ≤ i := (nI_leI (a := n) (b := i) (by omega) (by omega)).mp c9
        refine lv_iload_n hx hb dX6_photoTotal_30 rfl (lv_at hl 1 rfl) ?_
        exact r_iret CF hr hlk hH hS dX6_photoTotal_31 ⟨by rw [h1]; have e : i = n := (by omega); subst e; rfl, rfl⟩
      · have c9 : i < n := Nat.lt_of_not_le (fun zq => c9 ((nI_leI (a := n) (b := i) (by omega) (by omega)).mpr zq))
        refine lv_iload_n hx hb dX6_photoTotal_12 rfl (lv_at hl 1 rfl) ?_
        refine lv_aload_n hx hb dX6_photoTotal_13 rfl (lv_at hl 0 rfl) ?_
        refine r_get CF hK hH (16 + b) (by omega) (we_l G hb2 _) rfl JX6 1 (by decide) K2 rfl dX6_photoTotal_14 ?_
        refine lv_iload_n hx hb dX6_photoTotal_17 rfl (lv_at hl 2 rfl) ?_
        refine r_aald CF hK hH hb2 i rfl (by omega) dX6_photoTotal_18 ?_
        refine r_cR hS (r_runV (n := 0) (As := []) (rest := [.int x1]) CF hK hH (c_X5_photos l G σ (8 * b + i) (by omega) (sq i) (hL.2.2 i (by omega))) gX6_photoTotal_X5_photos rfl rfl rfl rfl (by decide +kernel) ⟨⟨Nat.le_of_ble_eq_true rfl, Nat.le_of_ble_eq_true rfl⟩, Nat.le_of_ble_eq_true rfl, Nat.le_of_ble_eq_true rfl⟩ (8 * b + i) rfl (by omega) (we_s G (by omega) _) rfl rfl hl.1 rfl (Nat.le_of_ble_eq_true rfl) dX6_photoTotal_19) (fun H locs hH hS => ?_)
        refine lv_iadd hx hb dX6_photoTotal_22 ?_
        refine lv_istore_n (lv' := [(1, .int (x1 + (nI (phF (sq i))))), (0, .ref (G.2.1 (16 + b))), (2, .int (nI i))]) hx hb dX6_photoTotal_23 rfl hl (by decide) rfl (fun ls hl => ?_)
        refine lv_iinc (v := nI (i + 1)) (lv' := [(2, .int (nI (i + 1))), (1, .int (x1 + (nI (phF (sq i))))), (0, .ref (G.2.1 (16 + b)))]) hx hb dX6_photoTotal_24 hl (k := 2) rfl (nI_1 _) (by decide) rfl (fun ls hl => ?_)
        refine lv_goto (tgt := 4) hx hb dX6_photoTotal_27 (by decide) ?_
        exact ih4 (i + 1) (x1 + (nI (phF (sq i)))) _ _ ls (by omega) (by omega) (by rw [h1, nI_add]; rfl) hH hS (lv_sub hl [2, 1, 0] rfl)
  exact lp4 (n + 1) 0 (0 : Int32) _ _ ls (by omega) (by omega) rfl hH hS (lv_sub hl [2, 1, 0] rfl)

set_option maxRecDepth 100000 in
set_option maxHeartbeats 4000000 in
theorem c_X6_views (l : Launch) (G : Gm) (σ : Sg) (b : Nat) (hb2 : b < 2) (n : Nat) (sq : Nat → S4) (hL : LSt σ b n sq) (r c L : Nat) (h3 : r < 10) (h4 : c < 16) (hL31 : L < 2 ^ 31) (hh : hB (σ 22) (σ 23 0)) : Met l yX6_views wsX6_views (rmO 3 84) (PP G [.ref (G.2.1 (16 + b)), .ref (G.2.1 21), .ref (G.2.1 23), .int (nI r), .int (nI c), .int (nI L)] σ) (QI G (RV (nI (min (covF (σ 22) (cmC σ) sq r c n) L)) σ)) 0 0 (fr G) := by
  refine r_start (cc := cX6_views) (maxL := 11) (ret := (some .int)) (by decide) rfl (Nat.le_of_ble_eq_true rfl) ?_
  intro pz ez sz mz below meth cz ls CF hr hlk hK hH hS hl
  have CF : CallFix pz mz cz cX6_views 11 sz (List.toArray [.ref (G.2.1 (16 + b)), .ref (G.2.1 21), .ref (G.2.1 23), .int (nI r), .int (nI c), .int (nI L)]) wsX6_views RX6 := CF
  have hx := CF.1
  have hb := CF.2.1
  have hown := CF.2.2.2.1
  have hts := CF.2.2.2.2
  have hl : lv_has ls 11 [(0, .ref (G.2.1 (16 + b))), (1, .ref (G.2.1 21)), (2, .ref (G.2.1 23)), (3, .int (nI r)), (4, .int (nI c)), (5, .int (nI L))] := hl
  have K1 := hts _ (List.mem_of_getElem? (i := 1) rfl)
  have K2 := hts _ (List.mem_of_getElem? (i := 2) rfl)
  have K3 := hts _ (List.mem_of_getElem? (i := 3) rfl)
  have JX5 : ∀ w ∈ wsX50, w ∈ wsX6_views := in_r _ [51, 52, 53, 54] (by decide +kernel)
  have JX6 : ∀ w ∈ wsX60, w ∈ wsX6_views := in_r _ [49, 50] (by decide +kernel)
  have hn := hL.1
  have hn8 := hL.2.1
  refine lv_iconst (v := 0) hx hb dX6_views_0 (by decide) ?_
  refine lv_istore (lv' := [(6, .int (0 : Int32)), (0, .ref (G.2.1 (16 + b))), (1, .ref (G.2.1 21)), (2, .ref (G.2.1 23)), (3, .int (nI r)), (4, .int (nI c)), (5, .int (nI L))]) hx hb dX6_views_1 hl (by decide) rfl (fun ls hl => ?_)
  refine lv_iconst (v := 0) hx hb dX6_views_3 (by decide) ?_
  refine lv_istore (lv' := [(7, .int (0 : Int32)), (6, .int (0 : Int32)), (0, .ref (G.2.1 (16 + b))), (1, .ref (G.2.1 21)), (2, .ref (G.2.1 23)), (3, .int (nI r)), (4, .int (nI c)), (5, .int (nI L))]) hx hb dX6_views_4 hl (by decide) rfl (fun ls hl => ?_)
  have lp6 : ∀ (fu : Nat) (i : Nat) (x6 : Int32) (H : Heap) (locs : List Loc) (ls : Array Slot), (n + 1 ≤ i + fu) → (i ≤ n) → (x6 = nI (min (covF (σ 22) (cmC σ) sq r c i) L)) → Hp G σ H → va_S (fr G) sz.heap H locs → lv_has ls 11 [(0, .ref (G.2.1 (16 + b))), (1, .ref (G.2.1 21)), (2, .ref (G.2.1 23)), (3, .int (nI r)), (4, .int (nI c)), (5, .int (nI L)), (6, .int x6), (7, .int (nI i))] → W pz l ez (rmO 3 84) sz mz (List.toArray [.ref (G.2.1 (16 + b)), .ref (G.2.1 21), .ref (G.2.1 23), .int (nI r), .int (nI c), .int (nI L)]) below meth cz H locs 0 0 (MQ below (QI G (RV (nI (min (covF (σ 22) (cmC σ) sq r c n) L)) σ)) (List.toArray [.ref (G.2.1 (16 + b)), .ref (G.2.1 21), .ref (G.2.1 23), .int (nI r), .int (nI c), .int (nI L)]) sz 0 0 (fr G)) (F0 mz 6 ls []) := by
    intro fu
    induction fu with
    | zero => intros; omega
    | succ fu ih6 =>
      intro i x6 H locs ls hf hi h6 hH hS hl
      refine lv_iload hx hb dX6_views_6 (lv_at hl 7 rfl) ?_
      refine lv_aload_n hx hb dX6_views_8 rfl (lv_at hl 0 rfl) ?_
      refine r_get CF hK hH (16 + b) (by omega) (we_l G hb2 _) rfl JX6 0 (by decide) K1 rfl dX6_views_9 ?_
      refine r_top (show (σ (16 + b) 0 : Int32) = nI n from hn) ?_
      refine lv_icmp_ge (tgt := 86) hx hb dX6_views_12 (by decide) (fun c12 => ?_) (fun c12 => ?_)
      · have c12 : n ≤ i := (nI_leI (a := n) (b := i) (by omega) (by omega)).mp c12
        refine lv_iload hx hb dX6_views_86 (lv_at hl 6 rfl) ?_
        exact r_iret CF hr hlk hH hS dX6_views_88 ⟨by rw [h6]; have e : i = n := (by omega); subst e; rfl, rfl⟩
      · have c12 : i < n := Nat.lt_of_not_le (fun zq => c12 ((nI_leI (a := n) (b := i) (by omega) (by omega)).mpr zq))
        have hq := (VSat hL c12).2.2.2.2
        have hph := phF_le hq
        refine lv_aload_n hx hb dX6_views_15 rfl (lv_at hl 0 rfl) ?_
        refine r_get CF hK hH (16 + b) (by omega) (we_l G hb2 _) rfl JX6 1 (by decide) K2 rfl dX6_views_16 ?_
        refine lv_iload hx hb dX6_views_19 (lv_at hl 7 rfl) ?_
        refine r_aald CF hK hH hb2 i rfl (by omega) dX6_views_21 ?_
        refine lv_astore (lv' := [(8, .ref (G.2.1 (8 * b + i))), (0, .ref (G.2.1 (16 + b))), (1, .ref (G.2.1 21)), (2, .ref (G.2.1 23)), (3, .int (nI r)), (4, .int (nI c)), (5, .int (nI L)), (6, .int x6), (7, .int (nI i))]) hx hb dX6_views_22 hl (by decide) rfl (fun ls hl => ?_)
        refine lv_aload hx hb dX6_views_24 (lv_at hl 0 rfl) ?_
        refine r_cR hS (r_runV (n := 0) (As := []) (rest := []) CF hK hH (c_X5_photos l G σ (8 * b + i) (by omega) (sq i) (hL.2.2 i (by omega))) gX6_views_X5_photos rfl rfl rfl rfl (by decide +kernel) ⟨⟨Nat.le_of_ble_eq_true rfl, Nat.le_of_ble_eq_true rfl⟩, Nat.le_of_ble_eq_true rfl, Nat.le_of_ble_eq_true rfl⟩ (8 * b + i) rfl (by omega) (we_s G (by omega) _) rfl rfl hl.1 rfl (Nat.le_of_ble_eq_true rfl) dX6_views_26) (fun H locs hH hS => ?_)
        refine lv_istore (lv' := [(9, .int (nI (phF (sq i)))), (8, .ref (G.2.1 (8 * b + i))), (0, .ref (G.2.1 (16 + b))), (1, .ref (G.2.1 21)), (2, .ref (G.2.1 23)), (3, .int (nI r)), (4, .int (nI c)), (5, .int (nI L)), (6, .int x6), (7, .int (nI i))]) hx hb dX6_views_29 hl (by decide) rfl (fun ls hl => ?_)
        refine lv_iconst (v := 0) hx hb dX6_views_31 (by decide) ?_
        refine lv_istore (lv' := [(10, .int (0 : Int32)), (9, .int (nI (phF (sq i)))), (8, .ref (G.2.1 (8 * b + i))), (0, .ref (G.2.1 (16 + b))), (1, .ref (G.2.1 21)), (2, .ref (G.2.1 23)), (3, .int (nI r)), (4, .int (nI c)), (5, .int (nI L)), (6, .int x6), (7, .int (nI i))]) hx hb dX6_views_32 hl (by decide) rfl (fun ls hl => ?_)
        have lp34 : ∀ (fv : Nat) (p : Nat) (y6 : Int32) (H : Heap) (locs : List Loc) (ls : Array Slot), (phF (sq i) + 1 ≤ p + fv) → (p ≤ phF (sq i)) → (y6 = nI (min (covF (σ 22) (cmC σ) sq r c i + cnt (fun p => psF (σ 22) (cmC σ) (sq i) p r c) p) L)) → Hp G σ H → va_S (fr G) sz.heap H locs → lv_has ls 11 [(0, .ref (G.2.1 (16 + b))), (1, .ref (G.2.1 21)), (2, .ref (G.2.1 23)), (3, .int (nI r)), (4, .int (nI c)), (5, .int (nI L)), (6, .int y6), (7, .int (nI i)), (8, .ref (G.2.1 (8 * b + i))), (9, .int (nI (phF (sq i)))), (10, .int (nI p))] → W pz l ez (rmO 3 84) sz mz (List.toArray [.ref (G.2.1 (16 + b)), .ref (G.2.1 21), .ref (G.2.1 23), .int (nI r), .int (nI c), .int (nI L)]) below meth cz H locs 0 0 (MQ below (QI G (RV (nI (min (covF (σ 22) (cmC σ) sq r c n) L)) σ)) (List.toArray [.ref (G.2.1 (16 + b)), .ref (G.2.1 21), .ref (G.2.1 23), .int (nI r), .int (nI c), .int (nI L)]) sz 0 0 (fr G)) (F0 mz 34 ls []) := by
          intro fv
          induction fv with
          | zero => intros; omega
          | succ fv ih34 =>
            intro p y6 H locs ls hg hp h6p hH hS hl
            refine lv_iload hx hb dX6_views_34 (lv_at hl 10 rfl) ?_
            refine lv_iload hx hb dX6_views_36 (lv_at hl 9 rfl) ?_
            refine lv_icmp_ge (tgt := 80) hx hb dX6_views_38 (by decide) (fun c38 => ?_) (fun c38 => ?_)
            · have c38 : (phF (sq i)) ≤ p := (nI_leI (a := (phF (sq i))) (b := p) (by omega) (by omega)).mp c38
              refine lv_iinc (v := nI (i + 1)) (lv' := [(7, .int (nI (i + 1))), (0, .ref (G.2.1 (16 + b))), (1, .ref (G.2.1 21)), (2, .ref (G.2.1 23)), (3, .int (nI r)), (4, .int (nI c)), (5, .int (nI L)), (6, .int y6), (8, .ref (G.2.1 (8 * b + i))), (9, .int (nI (phF (sq i)))), (10, .int (nI p))]) hx hb dX6_views_80 hl (k := 7) rfl (nI_1 _) (by decide) rfl (fun ls hl => ?_)
              refine lv_goto (tgt := 6) hx hb dX6_views_83 (by decide) ?_
              exact ih6 (i + 1) y6 _ _ ls (by omega) (by omega) (by rw [h6p]; have e : p = phF (sq i) := (by omega); rw [e]; rfl) hH hS (lv_sub hl [1, 2, 3, 4, 5, 6, 7, 0] rfl)
            · have c38 : p < (phF (sq i)) := Nat.lt_of_not_le (fun zq => c38 ((nI_leI (a := (phF (sq i))) (b := p) (by omega) (by omega)).mpr zq))
              have hcol := ph_col hq c38
              refine lv_iload hx hb dX6_views_41 (lv_at hl 6 rfl) ?_
              refine lv_iload hx hb dX6_views_43 (lv_at hl 5 rfl) ?_
              refine lv_icmp_ge (tgt := 80) hx hb dX6_views_45 (by decide) (fun c45 => ?_) (fun c45 => ?_)
              · have c45 : L ≤ min (covF (σ 22) (cmC σ) sq r c i + cnt (fun p => psF (σ 22) (cmC σ) (sq i) p r c) p) L := (nI_leI (a := L) (by omega) (by omega)).mp (by rw [← h6p]; exact c45)
                refine lv_iinc (v := nI (i + 1)) (lv' := [(7, .int (nI (i + 1))), (0, .ref (G.2.1 (16 + b))), (1, .ref (G.2.1 21)), (2, .ref (G.2.1 23)), (3, .int (nI r)), (4, .int (nI c)), (5, .int (nI L)), (6, .int y6), (8, .ref (G.2.1 (8 * b + i))), (9, .int (nI (phF (sq i)))), (10, .int (nI p))]) hx hb dX6_views_80 hl (k := 7) rfl (nI_1 _) (by decide) rfl (fun ls hl => ?_)
                refine lv_goto (tgt := 6) hx hb dX6_views_83 (by decide) ?_
                exact ih6 (i + 1) y6 _ _ ls (by omega) (by omega) (by rw [h6p]; congr 1; have := cnt_mono (fun p => psF (σ 22) (cmC σ) (sq i) p r c) hp; simp only [covF]; omega) hH hS (lv_sub hl [1, 2, 3, 4, 5, 6, 7, 0] rfl)
              · refine lv_aload_n hx hb dX6_views_48 rfl (lv_at hl 2 rfl) ?_
                refine lv_aload_n hx hb dX6_views_49 rfl (lv_at hl 1 rfl) ?_
                refine lv_aload hx hb dX6_views_50 (lv_at hl 8 rfl) ?_
                refine r_get CF hK hH (8 * b + i) (by omega) (we_s G (by omega) _) rfl JX5 0 (by decide) K3 rfl dX6_views_52 ?_
                refine r_top (show (σ (8 * b + i) 0 : Int32) = nI (sq i).1 from (VSat hL c12).1) ?_
                refine lv_aload hx hb dX6_views_55 (lv_at hl 8 rfl) ?_
                refine lv_iload hx hb dX6_views_57 (lv_at hl 10 rfl) ?_
                refine r_cR hS (r_runV (n := 1) (As := [.int (nI p)]) (rest := [.int (nI (sq i).1), .ref (G.2.1 21), .ref (G.2.1 23)]) CF hK hH (c_X5_columnOf l G σ (8 * b + i) (by omega) (sq i) (hL.2.2 i (by omega)) p) gX6_views_X5_columnOf rfl rfl rfl rfl (by decide +kernel) ⟨⟨Nat.le_of_ble_eq_true rfl, Nat.le_of_ble_eq_true rfl⟩, Nat.le_of_ble_eq_true rfl, Nat.le_of_ble_eq_true rfl⟩ (8 * b + i) rfl (by omega) (we_s G (by omega) _) rfl rfl hl.1 rfl (Nat.le_of_ble_eq_true rfl) dX6_views_59) (fun H locs hH hS => ?_)
                refine lv_iload_n hx hb dX6_views_62 rfl (lv_at hl 3 rfl) ?_
                refine lv_iload hx hb dX6_views_63 (lv_at hl 4 rfl) ?_
                refine r_cR hS (r_runV (n := 5) (As := [.ref (G.2.1 21), .int (nI (sq i).1), .int (nI ((sq i).2.1 + p * (sq i).2.2.2)), .int (nI r), .int (nI c)]) (rest := []) CF hK hH (c_X1_sees l G σ (sq i).1 ((sq i).2.1 + p * (sq i).2.2.2) r c hq.1 (by have := hq.2.2.1; omega) h3 h4 hh) gX6_views_X1_sees rfl rfl rfl rfl (by decide +kernel) ⟨⟨Nat.le_of_ble_eq_true rfl, Nat.le_of_ble_eq_true rfl⟩, Nat.le_of_ble_eq_true rfl, Nat.le_of_ble_eq_true rfl⟩ 23 rfl (Nat.le_of_ble_eq_true rfl) rfl rfl rfl hl.1 rfl (Nat.le_of_ble_eq_true rfl) dX6_views_65) (fun H locs hH hS => ?_)
                refine r_ifeqB (tgt := 74) hx hb dX6_views_68 (by decide) (fun c68 => ?_) (fun c68 => ?_)
                · refine lv_iinc (v := nI (p + 1)) (lv' := [(10, .int (nI (p + 1))), (0, .ref (G.2.1 (16 + b))), (1, .ref (G.2.1 21)), (2, .ref (G.2.1 23)), (3, .int (nI r)), (4, .int (nI c)), (5, .int (nI L)), (6, .int y6), (7, .int (nI i)), (8, .ref (G.2.1 (8 * b + i))), (9, .int (nI (phF (sq i))))]) hx hb dX6_views_74 hl (k := 10) rfl (nI_1 _) (by decide) rfl (fun ls hl => ?_)
                  refine lv_goto (tgt := 34) hx hb dX6_views_77 (by decide) ?_
                  exact ih34 (p + 1) y6 _ _ ls (by omega) (by omega) (by rw [cnt_f (p := fun p => psF (σ 22) (cmC σ) (sq i) p r c) c68]; exact h6p) hH hS (lv_sub hl [1, 2, 3, 4, 5, 6, 7, 8, 9, 10, 0] rfl)
                · refine lv_iinc (v := (y6 + (1))) (lv' := [(6, .int (y6 + (1))), (0, .ref (G.2.1 (16 + b))), (1, .ref (G.2.1 21)), (2, .ref (G.2.1 23)), (3, .int (nI r)), (4, .int (nI c)), (5, .int (nI L)), (7, .int (nI i)), (8, .ref (G.2.1 (8 * b + i))), (9, .int (nI (phF (sq i)))), (10, .int (nI p))]) hx hb dX6_views_71 hl (k := 6) rfl rfl (by decide) rfl (fun ls hl => ?_)
                  refine lv_iinc (v := nI (p + 1)) (lv' := [(10, .int (nI (p + 1))), (6, .int (y6 + (1))), (0, .ref (G.2.1 (16 + b))), (1, .ref (G.2.1 21)), (2, .ref (G.2.1 23)), (3, .int (nI r)), (4, .int (nI c)), (5, .int (nI L)), (7, .int (nI i)), (8, .ref (G.2.1 (8 * b + i))), (9, .int (nI (phF (sq i))))]) hx hb dX6_views_74 hl (k := 10) rfl (nI_1 _) (by decide) rfl (fun ls hl => ?_)
                  refine lv_goto (tgt := 34) hx hb dX6_views_77 (by decide) ?_
                  exact ih34 (p + 1) (y6 + (1)) _ _ ls (by omega) (by omega) (by rw [cnt_t (p := fun p => psF (σ 22) (cmC σ) (sq i) p r c) c68, h6p]; have hlt : min (covF (σ 22) (cmC σ) sq r c i + cnt (fun p => psF (σ 22) (cmC σ) (sq i) p r c) p) L < L := Nat.lt_of_not_le (fun zq => c45 (by rw [h6p]; exact nI_le zq (by omega))); exact (nI_1 _).trans (by congr 1; omega)) hH hS (lv_sub hl [2, 3, 4, 5, 6, 7, 1, 8, 9, 10, 0] rfl)
        exact lp34 (phF (sq i) + 1) 0 x6 _ _ ls (by omega) (by omega) h6 hH hS (lv_sub hl [3, 4, 5, 6, 7, 8, 9, 10, 2, 1, 0] rfl)
  exact lp6 (n + 1) 0 (0 : Int32) _ _ ls (by omega) (by omega) (by simp [covF]; rfl) hH hS (lv_sub hl [2, 3, 4, 5, 6, 7, 1, 0] rfl)
end
section
theorem dm1 {i j C : Nat} (h : j < C) : (i * C + j) / C = i := by
  rw [Nat.add_comm, Nat.add_mul_div_right _ _ (by omega), Nat.div_eq_of_lt h]; omega
theorem dm2 {i j C : Nat} (h : j < C) : (i * C + j) % C = j := by
  rw [Nat.add_comm, Nat.add_mul_mod_self_right, Nat.mod_eq_of_lt h]
theorem lt_mul {i j R C : Nat} (hi : i < R) (hj : j < C) : i * C + j < R * C := by
  have h1 : (i + 1) * C ≤ R * C := Nat.mul_le_mul_right C hi
  rw [Nat.succ_mul] at h1
  omega
def gapP (g : Nat → Int32) (cm : Cm) (sq : Nat → S4) (n C L : Nat) : Nat → Bool := fun z => decide (covF g cm sq (z / C) (z % C) n < L)
theorem gapP_at (g : Nat → Int32) (cm : Cm) (sq : Nat → S4) (n L : Nat) {i j C : Nat} (h : j < C) : gapP g cm sq n C L (i * C + j) = decide (covF g cm sq i j n < L) := by
  unfold gapP; rw [dm1 h, dm2 h]

set_option maxRecDepth 100000 in
set_option maxHeartbeats 4000000 in
theorem c_X6_leavesGap (l : Launch) (G : Gm) (σ : Sg) (b : Nat) (hb2 : b < 2) (n : Nat) (sq : Nat → S4) (hL : LSt σ b n sq) (R C : Nat) (hR : σ 21 0 = nI R) (hC : σ 21 1 = nI C) (hR10 : R ≤ 10) (hC16 : C ≤ 16) (L : Nat) (hL31 : L < 2 ^ 31) (hh : hB (σ 22) (σ 23 0)) : Met l yX6_leavesGap wsX6_leavesGap (rmO 4 114) (PP G [.ref (G.2.1 (16 + b)), .ref (G.2.1 21), .ref (G.2.1 23), .int (nI L)] σ) (QI G (RV (b2i (decide (0 < cnt (gapP (σ 22) (cmC σ) sq n C L) (R * C)))) σ)) 0 0 (fr G) := by
  refine r_start (cc := cX6_leavesGap) (maxL := 6) (ret := (some .boolean)) (by decide) rfl (Nat.le_of_ble_eq_true rfl) ?_
  intro pz ez sz mz below meth cz ls CF hr hlk hK hH hS hl
  have CF : CallFix pz mz cz cX6_leavesGap 6 sz (List.toArray [.ref (G.2.1 (16 + b)), .ref (G.2.1 21), .ref (G.2.1 23), .int (nI L)]) wsX6_leavesGap RX6 := CF
  have hx := CF.1
  have hb := CF.2.1
  have hown := CF.2.2.2.1
  have hts := CF.2.2.2.2
  have hl : lv_has ls 6 [(0, .ref (G.2.1 (16 + b))), (1, .ref (G.2.1 21)), (2, .ref (G.2.1 23)), (3, .int (nI L))] := hl
  have K1 := hts _ (List.mem_of_getElem? (i := 1) rfl)
  have K2 := hts _ (List.mem_of_getElem? (i := 2) rfl)
  have JX7 : ∀ w ∈ wsX70, w ∈ wsX6_leavesGap := in_r _ [56, 57, 58] (by decide +kernel)
  refine lv_iconst (v := 0) hx hb dX6_leavesGap_0 (by decide) ?_
  refine lv_istore (lv' := [(4, .int (0 : Int32)), (0, .ref (G.2.1 (16 + b))), (1, .ref (G.2.1 21)), (2, .ref (G.2.1 23)), (3, .int (nI L))]) hx hb dX6_leavesGap_1 hl (by decide) rfl (fun ls hl => ?_)
  have lp3 : ∀ (fu : Nat) (i : Nat) (H : Heap) (locs : List Loc) (ls : Array Slot), (R + 1 ≤ i + fu) → (i ≤ R) → (cnt (gapP (σ 22) (cmC σ) sq n C L) (i * C) = 0) → Hp G σ H → va_S (fr G) sz.heap H locs → lv_has ls 6 [(0, .ref (G.2.1 (16 + b))), (1, .ref (G.2.1 21)), (2, .ref (G.2.1 23)), (3, .int (nI L)), (4, .int (nI i))] → W pz l ez (rmO 4 114) sz mz (List.toArray [.ref (G.2.1 (16 + b)), .ref (G.2.1 21), .ref (G.2.1 23), .int (nI L)]) below meth cz H locs 0 0 (MQ below (QI G (RV (b2i (decide (0 < cnt (gapP (σ 22) (cmC σ) sq n C L) (R * C)))) σ)) (List.toArray [.ref (G.2.1 (16 + b)), .ref (G.2.1 21), .ref (G.2.1 23), .int (nI L)]) sz 0 0 (fr G)) (F0 mz 3 ls []) := by
    intro fu
    induction fu with
    | zero => intros; omega
    | succ fu ih3 =>
      intro i H locs ls hf hi hz hH hS hl
      refine lv_iload hx hb dX6_leavesGap_3 (lv_at hl 4 rfl) ?_
      refine lv_aload_n hx hb dX6_leavesGap_5 rfl (lv_at hl 1 rfl) ?_
      refine r_get CF hK hH 21 (Nat.le_of_ble_eq_true rfl) rfl rfl JX7 0 (by decide) K1 rfl dX6_leavesGap_6 ?_
      refine r_top (show (σ 21 0 : Int32) = nI R from hR) ?_
      refine lv_icmp_ge (tgt := 53) hx hb dX6_leavesGap_9 (by decide) (fun c9 => ?_) (fun c9 => ?_)
      · have c9 : R ≤ i := (nI_leI (a := R) (b := i) (by omega) (by omega)).mp c9
        refine lv_iconst (v := 0) hx hb dX6_leavesGap_53 (by decide) ?_
        exact r_zret CF hr hlk hH hS rfl dX6_leavesGap_54 ⟨by have e : i = R := (by omega); subst e; simp [b2i, hz], rfl⟩
      · have c9 : i < R := Nat.lt_of_not_le (fun zq => c9 ((nI_leI (a := R) (b := i) (by omega) (by omega)).mpr zq))
        refine lv_iconst (v := 0) hx hb dX6_leavesGap_12 (by decide) ?_
        refine lv_istore (lv' := [(5, .int (0 : Int32)), (0, .ref (G.2.1 (16 + b))), (1, .ref (G.2.1 21)), (2, .ref (G.2.1 23)), (3, .int (nI L)), (4, .int (nI i))]) hx hb dX6_leavesGap_13 hl (by decide) rfl (fun ls hl => ?_)
        have lp15 : ∀ (fv : Nat) (j : Nat) (H : Heap) (locs : List Loc) (ls : Array Slot), (C + 1 ≤ j + fv) → (j ≤ C) → (cnt (gapP (σ 22) (cmC σ) sq n C L) ((i * C + j)) = 0) → Hp G σ H → va_S (fr G) sz.heap H locs → lv_has ls 6 [(0, .ref (G.2.1 (16 + b))), (1, .ref (G.2.1 21)), (2, .ref (G.2.1 23)), (3, .int (nI L)), (4, .int (nI i)), (5, .int (nI j))] → W pz l ez (rmO 4 114) sz mz (List.toArray [.ref (G.2.1 (16 + b)), .ref (G.2.1 21), .ref (G.2.1 23), .int (nI L)]) below meth cz H locs 0 0 (MQ below (QI G (RV (b2i (decide (0 < cnt (gapP (σ 22) (cmC σ) sq n C L) (R * C)))) σ)) (List.toArray [.ref (G.2.1 (16 + b)), .ref (G.2.1 21), .ref (G.2.1 23), .int (nI L)]) sz 0 0 (fr G)) (F0 mz 15 ls []) := by
          intro fv
          induction fv with
          | zero => intros; omega
          | succ fv ih15 =>
            intro j H locs ls hg hj hz' hH hS hl
            refine lv_iload hx hb dX6_leavesGap_15 (lv_at hl 5 rfl) ?_
            refine lv_aload_n hx hb dX6_leavesGap_17 rfl (lv_at hl 1 rfl) ?_
            refine r_get CF hK hH 21 (Nat.le_of_ble_eq_true rfl) rfl rfl JX7 1 (by decide) K2 rfl dX6_leavesGap_18 ?_
            refine r_top (show (σ 21 1 : Int32) = nI C from hC) ?_
            refine lv_icmp_ge (tgt := 47) hx hb dX6_leavesGap_21 (by decide) (fun c21 => ?_) (fun c21 => ?_)
            · have c21 : C ≤ j := (nI_leI (a := C) (b := j) (by omega) (by omega)).mp c21
              refine lv_iinc (v := nI (i + 1)) (lv' := [(4, .int (nI (i + 1))), (0, .ref (G.2.1 (16 + b))), (1, .ref (G.2.1 21)), (2, .ref (G.2.1 23)), (3, .int (nI L)), (5, .int (nI j))]) hx hb dX6_leavesGap_47 hl (k := 4) rfl (nI_1 _) (by decide) rfl (fun ls hl => ?_)
              refine lv_goto (tgt := 3) hx hb dX6_leavesGap_50 (by decide) ?_
              exact ih3 (i + 1) _ _ ls (by omega) (by omega) (by have e : (i + 1) * C = i * C + j := (by have e2 : j = C := (by omega); rw [e2, Nat.succ_mul]); rw [e]; exact hz') hH hS (lv_sub hl [1, 2, 3, 4, 0] rfl)
            · have c21 : j < C := Nat.lt_of_not_le (fun zq => c21 ((nI_leI (a := C) (b := j) (by omega) (by omega)).mpr zq))
              refine lv_aload_n hx hb dX6_leavesGap_24 rfl (lv_at hl 0 rfl) ?_
              refine lv_aload_n hx hb dX6_leavesGap_25 rfl (lv_at hl 1 rfl) ?_
              refine lv_aload_n hx hb dX6_leavesGap_26 rfl (lv_at hl 2 rfl) ?_
              refine lv_iload hx hb dX6_leavesGap_27 (lv_at hl 4 rfl) ?_
              refine lv_iload hx hb dX6_leavesGap_29 (lv_at hl 5 rfl) ?_
              refine lv_iload_n hx hb dX6_leavesGap_31 rfl (lv_at hl 3 rfl) ?_
              refine r_cR hS (r_runV (n := 5) (As := [.ref (G.2.1 21), .ref (G.2.1 23), .int (nI i), .int (nI j), .int (nI L)]) (rest := []) CF hK hH (c_X6_views l G σ b hb2 n sq hL i j L (by omega) (by omega) (by omega) hh) gX6_leavesGap_X6_views rfl rfl rfl rfl (by decide +kernel) ⟨⟨Nat.le_of_ble_eq_true rfl, Nat.le_of_ble_eq_true rfl⟩, Nat.le_of_ble_eq_true rfl, Nat.le_of_ble_eq_true rfl⟩ (16 + b) rfl (by omega) (we_l G hb2 _) rfl rfl hl.1 rfl (Nat.le_of_ble_eq_true rfl) dX6_leavesGap_32) (fun H locs hH hS => ?_)
              refine lv_iload_n hx hb dX6_leavesGap_35 rfl (lv_at hl 3 rfl) ?_
              refine lv_icmp_ge (tgt := 41) hx hb dX6_leavesGap_36 (by decide) (fun c36 => ?_) (fun c36 => ?_)
              · have c36 : L ≤ min (covF (σ 22) (cmC σ) sq i j n) L := (nI_leI (a := L) (by omega) (by omega)).mp c36
                have gp : gapP (σ 22) (cmC σ) sq n C L (i * C + j) = false := by rw [gapP_at _ _ _ _ _ (by omega)]; simp; omega
                refine lv_iinc (v := nI (j + 1)) (lv' := [(5, .int (nI (j + 1))), (0, .ref (G.2.1 (16 + b))), (1, .ref (G.2.1 21)), (2, .ref (G.2.1 23)), (3, .int (nI L)), (4, .int (nI i))]) hx hb dX6_leavesGap_41 hl (k := 5) rfl (nI_1 _) (by decide) rfl (fun ls hl => ?_)
                refine lv_goto (tgt := 15) hx hb dX6_leavesGap_44 (by decide) ?_
                exact ih15 (j + 1) _ _ ls (by omega) (by omega) (by rw [show i * C + (j + 1) = i * C + j + 1 from rfl, cnt_f (p := gapP (σ 22) (cmC σ) sq n C L) gp]; exact hz') hH hS (lv_sub hl [1, 2, 3, 4, 5, 0] rfl)
              · have c36 : min (covF (σ 22) (cmC σ) sq i j n) L < L := Nat.lt_of_not_le (fun zq => c36 (nI_le zq (by omega)))
                have gp : gapP (σ 22) (cmC σ) sq n C L (i * C + j) = true := by rw [gapP_at _ _ _ _ _ (by omega)]; simp; omega
                refine lv_iconst (v := 1) hx hb dX6_leavesGap_39 (by decide) ?_
                exact r_zret CF hr hlk hH hS rfl dX6_leavesGap_40 ⟨by have := cnt_pos (p := gapP (σ 22) (cmC σ) sq n C L) gp (lt_mul c9 c21); simp [b2i, this], rfl⟩
        exact lp15 (C + 1) 0 _ _ ls (by omega) (by omega) (by exact hz) hH hS (lv_sub hl [1, 2, 3, 4, 5, 0] rfl)
  exact lp3 (R + 1) 0 _ _ ls (by omega) (by omega) (by rw [Nat.zero_mul]; rfl) hH hS (lv_sub hl [1, 2, 3, 4, 0] rfl)

def ndF (R rs : Nat) : Nat := (R - 1 - rs / 2) / rs + 1
def sqP (rs ps C : Nat) : Nat → S4 := fun i => (rs / 2 + i * rs, 0, C - 1, ps)
def layS (σ : Sg) (b rs ps C : Nat) : Nat → Sg
  | 0 => u2 σ (16 + b) 0 0
  | m + 1 => addF (layS σ b rs ps C m) b m (nI (rs / 2 + m * rs)) 0 (nI (C - 1)) (nI ps)
theorem addF_n {σ : Sg} {b n k : Nat} {a c d e : Int32} (h1 : k ≠ 8 * b + n) (h2 : k ≠ 16 + b) : addF σ b n a c d e k = σ k := by
  unfold addF
  rw [u2_n _ _ _ h2, u2_n _ _ _ h1, u2_n _ _ _ h1, u2_n _ _ _ h1, u2_n _ _ _ h1]
theorem addF_c (σ : Sg) (b n : Nat) (a c d e : Int32) : addF σ b n a c d e (16 + b) 0 = nI (n + 1) := by unfold addF; rw [u2_ss]
theorem addF_s {σ : Sg} {b n : Nat} (hb2 : b < 2) (hn : n < 8) (a c d e : Int32) : addF σ b n a c d e (8 * b + n) 0 = a ∧ addF σ b n a c d e (8 * b + n) 1 = c ∧ addF σ b n a c d e (8 * b + n) 2 = d ∧ addF σ b n a c d e (8 * b + n) 3 = e := by
  have h : 8 * b + n ≠ 16 + b := by omega
  unfold addF
  rw [u2_n _ _ _ h]
  refine ⟨?_, ?_, ?_, ?_⟩ <;> simp [u2, va_up]
theorem layS_n {σ : Sg} {b rs ps C : Nat} (m : Nat) {k : Nat} (hm : m ≤ 8) (h1 : ¬ (8 * b ≤ k ∧ k < 8 * b + 8)) (h2 : k ≠ 16 + b) : layS σ b rs ps C m k = σ k := by
  induction m with
  | zero => exact u2_n _ _ _ h2
  | succ m ih => rw [layS, addF_n (by omega) h2, ih (by omega)]
theorem layS_c (σ : Sg) (b rs ps C m : Nat) : layS σ b rs ps C m (16 + b) 0 = nI m := by
  cases m with
  | zero => exact u2_ss _ _ _ _
  | succ m => exact addF_c _ _ _ _ _ _ _
theorem layS_s {σ : Sg} {b rs ps C : Nat} (hb2 : b < 2) (m : Nat) (hm : m ≤ 8) {i : Nat} (hi : i < m) : layS σ b rs ps C m (8 * b + i) 0 = nI (rs / 2 + i * rs) ∧ layS σ b rs ps C m (8 * b + i) 1 = 0 ∧ layS σ b rs ps C m (8 * b + i) 2 = nI (C - 1) ∧ layS σ b rs ps C m (8 * b + i) 3 = nI ps := by
  induction m with
  | zero => omega
  | succ m ih =>
    by_cases h : i = m
    · subst h
      exact addF_s hb2 (by omega) _ _ _ _
    · rw [layS, addF_n (by omega) (by omega)]
      exact ih (by omega) (by omega)
theorem row_lt {R rs i : Nat} (h1 : 1 ≤ rs) (h2 : rs ≤ R) (hi : i < ndF R rs) : rs / 2 + i * rs < R := by
  unfold ndF at hi
  have h3 : i ≤ (R - 1 - rs / 2) / rs := by omega
  have h4 := (Nat.le_div_iff_mul_le (by omega)).mp h3
  omega
theorem layS_L {σ : Sg} {b rs ps C R m : Nat} (hb2 : b < 2) (hm : m ≤ 8) (h1 : 1 ≤ rs) (h2 : rs ≤ R) (hR : R ≤ 10) (hC : 1 ≤ C) (hC2 : C ≤ 16) (h3 : 1 ≤ ps) (h4 : ps ≤ 16) (hmn : m ≤ ndF R rs) : LSt (layS σ b rs ps C m) b m (sqP rs ps C) := by
  refine ⟨layS_c _ _ _ _ _ _, hm, fun i hi => ?_⟩
  obtain ⟨e0, e1, e2, e3⟩ := layS_s (σ := σ) (rs := rs) (ps := ps) (C := C) hb2 m hm hi
  have hr := row_lt h1 h2 (show i < ndF R rs by omega)
  exact ⟨e0, e1, e2, e3, show rs / 2 + i * rs < 10 by omega, Nat.zero_le _, show C - 1 < 16 by omega, h3, h4⟩
theorem nd_nI {R rs : Nat} (h1 : 1 ≤ rs) (h2 : rs ≤ R) (hR : R ≤ 10) : quo (nI R - 1 - nI rs / 2) (nI rs) + 1 = nI (ndF R rs) := by
  rw [show nI rs / 2 = nI (rs / 2) from pk_div (d := 2) (by omega) (by omega) (by omega), show nI R - 1 = nI (R - 1) from pk_sub (b := 1) (by omega), pk_sub (by omega), quo_nI (by omega) (by omega) (by omega)]
  exact nI_1 _
theorem ndF_le {R rs : Nat} (hR : R ≤ 10) : ndF R rs ≤ 10 := by
  unfold ndF
  have := Nat.div_le_self (R - 1 - rs / 2) rs
  omega

set_option maxRecDepth 100000 in
set_option maxHeartbeats 4000000 in
theorem c_X6_layOut (l : Launch) (G : Gm) (σ : Sg) (b : Nat) (hb2 : b < 2) (rs ps : Nat) (R C : Nat) (hR : σ 21 0 = nI R) (hC : σ 21 1 = nI C) (hR10 : R ≤ 10) (hC16 : C ≤ 16) (h1 : 1 ≤ rs) (h2 : rs ≤ R) (hC1 : 1 ≤ C) : Met l yX6_layOut wsX6_layOut (rmO 2 48) (PP G [.ref (G.2.1 (16 + b)), .ref (G.2.1 21), .int (nI rs), .int (nI ps)] σ) (QI G (fun r σ' => if 8 < ndF R rs then r = b2i false ∧ σ' = σ else r = b2i true ∧ σ' = layS σ b rs ps C (ndF R rs))) 0 0 (fr G) := by
  refine r_start (cc := cX6_layOut) (maxL := 7) (ret := (some .boolean)) (by decide) rfl (Nat.le_of_ble_eq_true rfl) ?_
  intro pz ez sz mz below meth cz ls CF hr hlk hK hH hS hl
  have CF : CallFix pz mz cz cX6_layOut 7 sz (List.toArray [.ref (G.2.1 (16 + b)), .ref (G.2.1 21), .int (nI rs), .int (nI ps)]) wsX6_layOut RX6 := CF
  have hx := CF.1
  have hb := CF.2.1
  have hown := CF.2.2.2.1
  have hts := CF.2.2.2.2
  have hl : lv_has ls 7 [(0, .ref (G.2.1 (16 + b))), (1, .ref (G.2.1 21)), (2, .int (nI rs)), (3, .int (nI ps))] := hl
  have K1 := hts _ (List.mem_of_getElem? (i := 1) rfl)
  have K2 := hts _ (List.mem_of_getElem? (i := 2) rfl)
  have K3 := hts _ (List.mem_of_getElem? (i := 3) rfl)
  have K4 := hts _ (List.mem_of_getElem? (i := 4) rfl)
  have K5 := hts _ (List.mem_of_getElem? (i := 5) rfl)
  have JX6 : ∀ w ∈ wsX60, w ∈ wsX6_layOut := in_r _ [29, 30] (by decide +kernel)
  have JX7 : ∀ w ∈ wsX70, w ∈ wsX6_layOut := in_r _ [26, 27, 28] (by decide +kernel)
  have hnd := ndF_le (rs := rs) hR10
  have hnq := nd_nI h1 h2 hR10
  obtain ⟨N, hN⟩ : ∃ N, ndF R rs = N := ⟨_, rfl⟩
  rw [hN] at hnd hnq
  refine lv_iload_n hx hb dX6_layOut_0 rfl (lv_at hl 2 rfl) ?_
  refine lv_iconst (v := 2) hx hb dX6_layOut_1 (by decide) ?_
  refine lv_idiv hx hb dX6_layOut_2 (by decide) ?_
  refine lv_istore (lv' := [(4, .int ((nI rs) / (2 : Int32))), (0, .ref (G.2.1 (16 + b))), (1, .ref (G.2.1 21)), (2, .int (nI rs)), (3, .int (nI ps))]) hx hb dX6_layOut_3 hl (by decide) rfl (fun ls hl => ?_)
  refine lv_aload_n hx hb dX6_layOut_5 rfl (lv_at hl 2 rfl) ?_
  refine r_get CF hK hH 21 (Nat.le_of_ble_eq_true rfl) rfl rfl JX7 0 (by decide) K1 rfl dX6_layOut_6 ?_
  refine r_top (show (σ 21 0 : Int32) = nI R from hR) ?_
  refine lv_iconst (v := 1) hx hb dX6_layOut_9 (by decide) ?_
  refine lv_isub hx hb dX6_layOut_10 ?_
  refine lv_iload hx hb dX6_layOut_11 (lv_at hl 0 rfl) ?_
  refine lv_isub hx hb dX6_layOut_13 ?_
  refine lv_iload_n hx hb dX6_layOut_14 rfl (lv_at hl 3 rfl) ?_
  refine r_cR hS (r_runN (n := 2) (As := [.int (((nI R) - (1 : Int32)) - ((nI rs) / (2 : Int32))), .int (nI rs)]) (rest := []) CF hK hH (c_X8_quotient l G σ (((nI R) - (1 : Int32)) - ((nI rs) / (2 : Int32))) (nI rs)) gX6_layOut_X8_quotient_n47 rfl rfl rfl hK.2.2.2.2.2.1 K5 K4 (by decide +kernel) ⟨⟨Nat.le_of_ble_eq_true rfl, Nat.le_of_ble_eq_true rfl⟩, Nat.le_of_ble_eq_true rfl, Nat.le_of_ble_eq_true rfl⟩ rfl hl.1 rfl (Nat.le_of_ble_eq_true rfl) dX6_layOut_15) (fun H locs hH hS => ?_)
  refine lv_iconst (v := 1) hx hb dX6_layOut_18 (by decide) ?_
  refine lv_iadd hx hb dX6_layOut_19 ?_
  refine r_top (show (((quo (((nI R) - (1 : Int32)) - ((nI rs) / (2 : Int32))) (nI rs)) + (1 : Int32)) : Int32) = nI N from hnq) ?_
  refine lv_istore (lv' := [(5, .int (nI N)), (4, .int ((nI rs) / (2 : Int32))), (0, .ref (G.2.1 (16 + b))), (1, .ref (G.2.1 21)), (2, .int (nI rs)), (3, .int (nI ps))]) hx hb dX6_layOut_20 hl (by decide) rfl (fun ls hl => ?_)
  refine lv_iload hx hb dX6_layOut_22 (lv_at hl 0 rfl) ?_
  refine lv_aload_n hx hb dX6_layOut_24 rfl (lv_at hl 2 rfl) ?_
  refine r_get CF hK hH (16 + b) (by omega) (we_l G hb2 _) rfl JX6 1 (by decide) K2 rfl dX6_layOut_25 ?_
  refine r_alen (v := 8) CF hK hH (18 + b) (by omega) (we_a G hb2 _) 2 rfl rfl dX6_layOut_28 ?_
  refine lv_icmp_le (tgt := 34) hx hb dX6_layOut_29 (by decide) (fun c29 => ?_) (fun c29 => ?_)
  · have c29 : N ≤ 8 := (nI_leI (a := N) (b := 8) (by omega) (by omega)).mp c29
    refine lv_aload_n hx hb dX6_layOut_34 rfl (lv_at hl 2 rfl) ?_
    refine r_cV hS (r_runV (n := 0) (As := []) (rest := []) CF hK hH (c_X6_clear l G σ b hb2) gX6_layOut_X6_clear rfl rfl rfl rfl (by decide +kernel) ⟨⟨Nat.le_of_ble_eq_true rfl, Nat.le_of_ble_eq_true rfl⟩, Nat.le_of_ble_eq_true rfl, Nat.le_of_ble_eq_true rfl⟩ (16 + b) rfl (by omega) (we_l G hb2 _) rfl rfl hl.1 rfl (Nat.le_of_ble_eq_true rfl) dX6_layOut_35) (fun H locs hH hS => ?_)
    refine lv_iconst (v := 0) hx hb dX6_layOut_38 (by decide) ?_
    refine lv_istore (lv' := [(6, .int (0 : Int32)), (5, .int (nI N)), (4, .int ((nI rs) / (2 : Int32))), (0, .ref (G.2.1 (16 + b))), (1, .ref (G.2.1 21)), (2, .int (nI rs)), (3, .int (nI ps))]) hx hb dX6_layOut_39 hl (by decide) rfl (fun ls hl => ?_)
    have lp41 : ∀ (fu : Nat) (i : Nat) (σ1 : Sg) (H : Heap) (locs : List Loc) (ls : Array Slot), (N + 1 ≤ i + fu) → (i ≤ N) → (σ1 = layS σ b rs ps C i) → Hp G σ1 H → va_S (fr G) sz.heap H locs → lv_has ls 7 [(0, .ref (G.2.1 (16 + b))), (1, .ref (G.2.1 21)), (2, .int (nI rs)), (3, .int (nI ps)), (4, .int (nI rs / (2 : Int32))), (5, .int (nI N)), (6, .int (nI i))] → W pz l ez (rmO 2 48) sz mz (List.toArray [.ref (G.2.1 (16 + b)), .ref (G.2.1 21), .int (nI rs), .int (nI ps)]) below meth cz H locs 0 0 (MQ below (QI G (fun r σ' => if 8 < ndF R rs then r = b2i false ∧ σ' = σ else r = b2i true ∧ σ' = layS σ b rs ps C (ndF R rs))) (List.toArray [.ref (G.2.1 (16 + b)), .ref (G.2.1 21), .int (nI rs), .int (nI ps)]) sz 0 0 (fr G)) (F0 mz 41 ls []) := by
      intro fu
      induction fu with
      | zero => intros; omega
      | succ fu ih41 =>
        intro i σ1 H locs ls hf hi hσ hH hS hl
        refine lv_iload hx hb dX6_layOut_41 (lv_at hl 6 rfl) ?_
        refine lv_iload hx hb dX6_layOut_43 (lv_at hl 5 rfl) ?_
        refine lv_icmp_ge (tgt := 74) hx hb dX6_layOut_45 (by decide) (fun c45 => ?_) (fun c45 => ?_)
        · have c45 : N ≤ i := (nI_leI (a := N) (b := i) (by omega) (by omega)).mp c45
          refine lv_iconst (v := 1) hx hb dX6_layOut_74 (by decide) ?_
          exact r_zret CF hr hlk hH hS rfl dX6_layOut_75 (by rw [if_neg (by rw [hN]; omega)]; have e : i = N := (by omega); exact ⟨rfl, by rw [hσ, hN, e]⟩)
        · have c45 : i < N := Nat.lt_of_not_le (fun zq => c45 ((nI_leI (a := N) (b := i) (by omega) (by omega)).mpr zq))
          refine lv_aload_n hx hb dX6_layOut_48 rfl (lv_at hl 0 rfl) ?_
          refine lv_iload hx hb dX6_layOut_49 (lv_at hl 4 rfl) ?_
          refine lv_iload hx hb dX6_layOut_51 (lv_at hl 6 rfl) ?_
          refine lv_iload_n hx hb dX6_layOut_53 rfl (lv_at hl 2 rfl) ?_
          refine lv_imul hx hb dX6_layOut_54 ?_
          refine lv_iadd hx hb dX6_layOut_55 ?_
          refine r_top (show (((nI rs / (2 : Int32)) + ((nI i) * (nI rs))) : Int32) = nI (rs / 2 + i * rs) from (by rw [show nI rs / 2 = nI (rs / 2) from pk_div (d := 2) (by omega) (by omega) (by omega), pk_mul, nI_add])) ?_
          refine lv_iconst (v := 0) hx hb dX6_layOut_56 (by decide) ?_
          refine lv_aload_n hx hb dX6_layOut_57 rfl (lv_at hl 1 rfl) ?_
          refine r_get CF hK hH 21 (Nat.le_of_ble_eq_true rfl) rfl rfl JX7 1 (by decide) K3 rfl dX6_layOut_58 ?_
          refine r_top (show (σ1 21 1 : Int32) = nI C from (by rw [hσ, layS_n i (by omega) (by omega) (by omega)]; exact hC)) ?_
          refine lv_iconst (v := 1) hx hb dX6_layOut_61 (by decide) ?_
          refine lv_isub hx hb dX6_layOut_62 ?_
          refine r_top (show (((nI C) - (1 : Int32)) : Int32) = nI (C - 1) from (pk_sub (b := 1) (by omega))) ?_
          refine lv_iload_n hx hb dX6_layOut_63 rfl (lv_at hl 3 rfl) ?_
          refine r_calli hS (r_runV (n := 4) (As := [.int (nI (rs / 2 + i * rs)), .int (0 : Int32), .int (nI (C - 1)), .int (nI ps)]) (rest := []) CF hK hH (c_X6_add l G σ1 b hb2 i (by rw [hσ]; exact layS_c _ _ _ _ _ _) (by omega) (nI (rs / 2 + i * rs)) (0 : Int32) (nI (C - 1)) (nI ps)) gX6_layOut_X6_add rfl rfl rfl rfl (by decide +kernel) ⟨⟨Nat.le_of_ble_eq_true rfl, Nat.le_of_ble_eq_true rfl⟩, Nat.le_of_ble_eq_true rfl, Nat.le_of_ble_eq_true rfl⟩ (16 + b) rfl (by omega) (we_l G hb2 _) rfl rfl hl.1 rfl (Nat.le_of_ble_eq_true rfl) dX6_layOut_64) (fun r64 σ64 H locs hq hH hS => ?_)
          rw [if_neg (by omega)] at hq
          obtain ⟨hr1, hσ1⟩ := hq
          rw [hσ1] at hH
          refine lv_pop hx hb dX6_layOut_67 rfl ?_
          refine lv_iinc (v := nI (i + 1)) (lv' := [(6, .int (nI (i + 1))), (0, .ref (G.2.1 (16 + b))), (1, .ref (G.2.1 21)), (2, .int (nI rs)), (3, .int (nI ps)), (4, .int (nI rs / (2 : Int32))), (5, .int (nI N))]) hx hb dX6_layOut_68 hl (k := 6) rfl (nI_1 _) (by decide) rfl (fun ls hl => ?_)
          refine lv_goto (tgt := 41) hx hb dX6_layOut_71 (by decide) ?_
          exact ih41 (i + 1) (addF σ1 b i (nI (rs / 2 + i * rs)) (0 : Int32) (nI (C - 1)) (nI ps)) _ _ ls (by omega) (by omega) (by rw [hσ]; rfl) hH hS (lv_sub hl [1, 2, 3, 4, 5, 6, 0] rfl)
    exact lp41 (N + 1) 0 (u2 σ (16 + b) 0 0) _ _ ls (by omega) (by omega) rfl hH hS (lv_sub hl [3, 4, 5, 6, 2, 1, 0] rfl)
  · have c29 : ¬ N ≤ 8 := fun zq => c29 ((nI_leI (a := N) (b := 8) (by omega) (by omega)).mpr zq)
    refine lv_iconst (v := 0) hx hb dX6_layOut_32 (by decide) ?_
    exact r_zret CF hr hlk hH hS rfl dX6_layOut_33 (by rw [if_pos (by rw [hN]; omega)]; exact ⟨rfl, rfl⟩)

def rmS (σ : Sg) (b j i : Nat) : Sg := fun k f => if (8 * b + j ≤ k ∧ k < 8 * b + i) ∧ f < 4 then σ (k + 1) f else σ k f
theorem rmS_0 (σ : Sg) (b j : Nat) : rmS σ b j j = σ := by
  funext k f
  unfold rmS
  rw [if_neg (by omega)]
theorem rmS_at (σ : Sg) (b j : Nat) {i k : Nat} (h : 8 * b + i ≤ k) : rmS σ b j i k = σ k := by
  funext f
  unfold rmS
  rw [if_neg (by omega)]
theorem rmS_s (σ : Sg) {b j i : Nat} (h : j ≤ i) : u2 (u2 (u2 (u2 (rmS σ b j i) (8 * b + i) 0 (σ (8 * b + (i + 1)) 0)) (8 * b + i) 1 (σ (8 * b + (i + 1)) 1)) (8 * b + i) 2 (σ (8 * b + (i + 1)) 2)) (8 * b + i) 3 (σ (8 * b + (i + 1)) 3) = rmS σ b j (i + 1) := by
  funext k f
  by_cases hk : k = 8 * b + i
  · subst hk
    unfold rmS
    by_cases h0 : f = 0
    · subst h0; rw [if_pos (by omega)]; simp [u2, va_up]; rfl
    by_cases h1 : f = 1
    · subst h1; rw [if_pos (by omega)]; simp [u2, va_up]; rfl
    by_cases h2 : f = 2
    · subst h2; rw [if_pos (by omega)]; simp [u2, va_up]; rfl
    by_cases h3 : f = 3
    · subst h3; rw [if_pos (by omega)]; simp [u2, va_up]; rfl
    rw [if_neg (by omega), u2_sn _ _ _ h3, u2_sn _ _ _ h2, u2_sn _ _ _ h1, u2_sn _ _ _ h0]
    rw [if_neg (by omega)]
  · rw [u2_n _ _ _ hk, u2_n _ _ _ hk, u2_n _ _ _ hk, u2_n _ _ _ hk]
    unfold rmS
    by_cases hc : (8 * b + j ≤ k ∧ k < 8 * b + i) ∧ f < 4
    · rw [if_pos hc, if_pos (by omega)]
    · rw [if_neg hc, if_neg (by omega)]

set_option maxRecDepth 100000 in
set_option maxHeartbeats 4000000 in
theorem c_X6_remove (l : Launch) (G : Gm) (σ : Sg) (b : Nat) (hb2 : b < 2) (n : Nat) (hn : σ (16 + b) 0 = nI n) (hn8 : n ≤ 8) (j : Nat) (hj : j < n) : Met l yX6_remove wsX6_remove (rmO 1 24) (PP G [.ref (G.2.1 (16 + b)), .int (nI j)] σ) (QV G (VV (u2 (rmS σ b j (n - 1)) (16 + b) 0 (nI (n - 1))))) 0 0 (fr G) := by
  refine r_start (cc := cX6_remove) (maxL := 4) (ret := none) (by decide) rfl (Nat.le_of_ble_eq_true rfl) ?_
  intro pz ez sz mz below meth cz ls CF hr hlk hK hH hS hl
  have CF : CallFix pz mz cz cX6_remove 4 sz (List.toArray [.ref (G.2.1 (16 + b)), .int (nI j)]) wsX6_remove RX6 := CF
  have hx := CF.1
  have hb := CF.2.1
  have hown := CF.2.2.2.1
  have hts := CF.2.2.2.2
  have hl : lv_has ls 4 [(0, .ref (G.2.1 (16 + b))), (1, .int (nI j))] := hl
  have K1 := hts _ (List.mem_of_getElem? (i := 1) rfl)
  have K2 := hts _ (List.mem_of_getElem? (i := 2) rfl)
  have K3 := hts _ (List.mem_of_getElem? (i := 3) rfl)
  have K4 := hts _ (List.mem_of_getElem? (i := 4) rfl)
  have K5 := hts _ (List.mem_of_getElem? (i := 5) rfl)
  have K6 := hts _ (List.mem_of_getElem? (i := 6) rfl)
  have JX5 : ∀ w ∈ wsX50, w ∈ wsX6_remove := in_r _ [23, 24, 25, 26] (by decide +kernel)
  have JX6 : ∀ w ∈ wsX60, w ∈ wsX6_remove := in_r _ [21, 22] (by decide +kernel)
  refine lv_aload_n hx hb dX6_remove_0 rfl (lv_at hl 0 rfl) ?_
  refine lv_iload_n hx hb dX6_remove_1 rfl (lv_at hl 1 rfl) ?_
  refine r_callq hS (r_runV (n := 1) (As := [.int (nI j)]) (rest := []) CF hK hH (c_X6_find l G σ b hb2 n hn hn8 (nI j)) gX6_remove_X6_find rfl rfl rfl rfl (by decide +kernel) ⟨⟨Nat.le_of_ble_eq_true rfl, Nat.le_of_ble_eq_true rfl⟩, Nat.le_of_ble_eq_true rfl, Nat.le_of_ble_eq_true rfl⟩ (16 + b) rfl (by omega) (we_l G hb2 _) rfl rfl hl.1 rfl (Nat.le_of_ble_eq_true rfl) dX6_remove_2) (fun r σ1 H locs hq hH hS => ?_)
  obtain ⟨hσ1, hq⟩ := hq
  rw [hσ1] at hH
  rcases hq with ⟨hn2, hr1⟩ | ⟨j2, hj2, hi2, hr1⟩
  · rw [hr1]
    rw [show va_rf none = Value.null from rfl]
    have hin2 := inB_f hn2
    refine lv_ifnonnullN hx hb dX6_remove_5 ?_
    exact absurd hn2 (by rintro (h | h)
                         · exact nI_pos (by omega) h
                         · exact absurd ((nI_leI (by omega) (by omega)).mp h) (by omega))
  · rw [hr1]
    rw [show va_rf (some (G.2.1 (8 * b + j2))) = Value.ref (G.2.1 (8 * b + j2)) from rfl]
    have hin2 := inB_t hj2 hi2 (by omega)
    have hN2 := N_of hi2 (by omega)
    refine lv_ifnonnull (tgt := 9) hx hb dX6_remove_5 (by decide) ?_
    refine lv_iload_n hx hb dX6_remove_9 rfl (lv_at hl 1 rfl) ?_
    refine lv_istore_n (lv' := [(2, .int (nI j)), (0, .ref (G.2.1 (16 + b))), (1, .int (nI j))]) hx hb dX6_remove_10 rfl hl (by decide) rfl (fun ls hl => ?_)
    have lp11 : ∀ (fu : Nat) (i : Nat) (σ1 : Sg) (H : Heap) (locs : List Loc) (ls : Array Slot), (n ≤ i + fu) → (j ≤ i) → (i + 1 ≤ n) → (σ1 = rmS σ b j i) → Hp G σ1 H → va_S (fr G) sz.heap H locs → lv_has ls 4 [(0, .ref (G.2.1 (16 + b))), (1, .int (nI j)), (2, .int (nI i))] → W pz l ez (rmO 1 24) sz mz (List.toArray [.ref (G.2.1 (16 + b)), .int (nI j)]) below meth cz H locs 0 0 (MQ below (QV G (VV (u2 (rmS σ b j (n - 1)) (16 + b) 0 (nI (n - 1))))) (List.toArray [.ref (G.2.1 (16 + b)), .int (nI j)]) sz 0 0 (fr G)) (F0 mz 11 ls []) := by
      intro fu
      induction fu with
      | zero => intros; omega
      | succ fu ih11 =>
        intro i σ1 H locs ls hf hji hi hσ hH hS hl
        refine lv_iload_n hx hb dX6_remove_11 rfl (lv_at hl 2 rfl) ?_
        refine lv_iconst (v := 1) hx hb dX6_remove_12 (by decide) ?_
        refine lv_iadd hx hb dX6_remove_13 ?_
        refine r_top (show (((nI i) + (1 : Int32)) : Int32) = nI (i + 1) from nI_1 i) ?_
        refine lv_aload_n hx hb dX6_remove_14 rfl (lv_at hl 0 rfl) ?_
        refine r_get CF hK hH (16 + b) (by omega) (we_l G hb2 _) rfl JX6 0 (by decide) K1 rfl dX6_remove_15 ?_
        refine r_top (show (σ1 (16 + b) 0 : Int32) = nI n from (by rw [hσ, rmS_at σ b j (by omega)]; exact hn)) ?_
        refine lv_icmp_ge (tgt := 61) hx hb dX6_remove_18 (by decide) (fun c18 => ?_) (fun c18 => ?_)
        · have c18 : n ≤ (i + 1) := (nI_leI (a := n) (b := (i + 1)) (by omega) (by omega)).mp c18
          refine lv_aload_n hx hb dX6_remove_61 rfl (lv_at hl 0 rfl) ?_
          refine lv_dup hx hb dX6_remove_62 rfl ?_
          refine r_get CF hK hH (16 + b) (by omega) (we_l G hb2 _) rfl JX6 0 (by decide) K1 rfl dX6_remove_63 ?_
          refine r_top (show (σ1 (16 + b) 0 : Int32) = nI n from (by rw [hσ, rmS_at σ b j (by omega)]; exact hn)) ?_
          refine lv_iconst (v := 1) hx hb dX6_remove_66 (by decide) ?_
          refine lv_isub hx hb dX6_remove_67 ?_
          refine r_top (show (((nI n) - (1 : Int32)) : Int32) = nI (n - 1) from (pk_sub (b := 1) (by omega))) ?_
          refine r_put CF hK hH hS (16 + b) (by omega) (we_l G hb2 _) rfl JX6 tyX6 tyX6_ok nmX6 0 (by decide) K1 rfl (by decide +kernel) (Nat.le_of_ble_eq_true rfl) (by rw [we_l G hb2]; rfl) dX6_remove_68 (fun H locs hH hS => ?_)
          exact r_vret CF hr hlk hH hS dX6_remove_71 (by have e : i = n - 1 := (by omega); rw [hσ, e])
        · have c18 : (i + 1) < n := Nat.lt_of_not_le (fun zq => c18 ((nI_leI (a := n) (b := (i + 1)) (by omega) (by omega)).mpr zq))
          refine lv_aload_n hx hb dX6_remove_21 rfl (lv_at hl 0 rfl) ?_
          refine r_get CF hK hH (16 + b) (by omega) (we_l G hb2 _) rfl JX6 1 (by decide) K2 rfl dX6_remove_22 ?_
          refine lv_iload_n hx hb dX6_remove_25 rfl (lv_at hl 2 rfl) ?_
          refine lv_iconst (v := 1) hx hb dX6_remove_26 (by decide) ?_
          refine lv_iadd hx hb dX6_remove_27 ?_
          refine r_top (show (((nI i) + (1 : Int32)) : Int32) = nI (i + 1) from nI_1 i) ?_
          refine r_aald CF hK hH hb2 (i + 1) rfl (by omega) dX6_remove_28 ?_
          refine lv_astore_n (lv' := [(3, .ref (G.2.1 (8 * b + (i + 1)))), (0, .ref (G.2.1 (16 + b))), (1, .int (nI j)), (2, .int (nI i))]) hx hb dX6_remove_29 rfl hl (by decide) rfl (fun ls hl => ?_)
          refine lv_aload_n hx hb dX6_remove_30 rfl (lv_at hl 1 rfl) ?_
          refine r_get CF hK hH (16 + b) (by omega) (we_l G hb2 _) rfl JX6 1 (by decide) K2 rfl dX6_remove_31 ?_
          refine lv_iload_n hx hb dX6_remove_34 rfl (lv_at hl 3 rfl) ?_
          refine r_aald CF hK hH hb2 i rfl (by omega) dX6_remove_35 ?_
          refine lv_aload_n hx hb dX6_remove_36 rfl (lv_at hl 0 rfl) ?_
          refine r_get CF hK hH (8 * b + (i + 1)) (by omega) (we_s G (by omega) _) rfl JX5 0 (by decide) K3 rfl dX6_remove_37 ?_
          refine r_top (show (σ1 (8 * b + (i + 1)) 0 : Int32) = σ (8 * b + (i + 1)) 0 from (by rw [hσ, rmS_at σ b j (by omega)])) ?_
          refine lv_aload_n hx hb dX6_remove_40 rfl (lv_at hl 0 rfl) ?_
          refine r_get CF hK hH (8 * b + (i + 1)) (by omega) (we_s G (by omega) _) rfl JX5 1 (by decide) K4 rfl dX6_remove_41 ?_
          refine r_top (show (σ1 (8 * b + (i + 1)) 1 : Int32) = σ (8 * b + (i + 1)) 1 from (by rw [hσ, rmS_at σ b j (by omega)])) ?_
          refine lv_aload_n hx hb dX6_remove_44 rfl (lv_at hl 0 rfl) ?_
          refine r_get CF hK hH (8 * b + (i + 1)) (by omega) (we_s G (by omega) _) rfl JX5 2 (by decide) K5 rfl dX6_remove_45 ?_
          refine r_top (show (σ1 (8 * b + (i + 1)) 2 : Int32) = σ (8 * b + (i + 1)) 2 from (by rw [hσ, rmS_at σ b j (by omega)])) ?_
          refine lv_aload_n hx hb dX6_remove_48 rfl (lv_at hl 0 rfl) ?_
          refine r_get CF hK hH (8 * b + (i + 1)) (by omega) (we_s G (by omega) _) rfl JX5 3 (by decide) K6 rfl dX6_remove_49 ?_
          refine r_top (show (σ1 (8 * b + (i + 1)) 3 : Int32) = σ (8 * b + (i + 1)) 3 from (by rw [hσ, rmS_at σ b j (by omega)])) ?_
          refine r_cV hS (r_runV (n := 4) (As := [.int (σ (8 * b + (i + 1)) 0), .int (σ (8 * b + (i + 1)) 1), .int (σ (8 * b + (i + 1)) 2), .int (σ (8 * b + (i + 1)) 3)]) (rest := []) CF hK hH (c_X5_put l G σ1 (8 * b + i) (by omega) (σ (8 * b + (i + 1)) 0) (σ (8 * b + (i + 1)) 1) (σ (8 * b + (i + 1)) 2) (σ (8 * b + (i + 1)) 3)) gX6_remove_X5_put rfl rfl rfl rfl (by decide +kernel) ⟨⟨Nat.le_of_ble_eq_true rfl, Nat.le_of_ble_eq_true rfl⟩, Nat.le_of_ble_eq_true rfl, Nat.le_of_ble_eq_true rfl⟩ (8 * b + i) rfl (by omega) (we_s G (by omega) _) rfl rfl hl.1 rfl (Nat.le_of_ble_eq_true rfl) dX6_remove_52) (fun H locs hH hS => ?_)
          refine lv_iinc (v := nI (i + 1)) (lv' := [(2, .int (nI (i + 1))), (3, .ref (G.2.1 (8 * b + (i + 1)))), (0, .ref (G.2.1 (16 + b))), (1, .int (nI j))]) hx hb dX6_remove_55 hl (k := 3) rfl (nI_1 _) (by decide) rfl (fun ls hl => ?_)
          refine lv_goto (tgt := 11) hx hb dX6_remove_58 (by decide) ?_
          exact ih11 (i + 1) (u2 (u2 (u2 (u2 σ1 (8 * b + i) 0 (σ (8 * b + (i + 1)) 0)) (8 * b + i) 1 (σ (8 * b + (i + 1)) 1)) (8 * b + i) 2 (σ (8 * b + (i + 1)) 2)) (8 * b + i) 3 (σ (8 * b + (i + 1)) 3)) _ _ ls (by omega) (by omega) (by omega) (by rw [hσ]; exact rmS_s σ hji) hH hS (lv_sub hl [2, 3, 0] rfl)
    exact lp11 (n + 1) j σ _ _ ls (by omega) (by omega) (by omega) (rmS_0 σ b j).symm hH hS (lv_sub hl [1, 2, 0] rfl)
end
section
/-! ===== what the survey answers, of R rows, C columns, heights g, camera cm, strips sq below n ===== -/
def aRes (x y : Int32) : Int32 := if isW x 3 10 && isW y 4 16 then x * y else -4
def aSetH (R C : Nat) (g : Nat → Int32) (x y h : Int32) : Int32 := if !(inB x R && inB y C) then -1 else if !isW h 0 999 then -4 else g (16 * NN x + NN y)
def aHgt (R C : Nat) (g : Nat → Int32) (x y : Int32) : Int32 := if inB x R && inB y C then g (16 * NN x + NN y) else -1
def aAlt (alt x : Int32) : Int32 := if isW x 100 5000 then alt else -4
def aFld (al ac x y : Int32) : Int32 := if isW x 1 50 && isW y 1 50 then (if al = x ∧ ac = y then 0 else 1) else -4
def aCrb (cr x : Int32) : Int32 := if isW x (-100) 100 then (if cr = x then 0 else 1) else -4
def aSpd (a b c x y z : Int32) : Int32 := if isW x 50 300 && (isW y (-40) 40 && isW z 0 500) then (if a = x ∧ b = y ∧ c = z then 0 else 1) else -4
def aAdd (R C n : Nat) (x f l s : Int32) : Int32 := if !((inB x R && inB f C) && (inB x R && inB l C)) then -1 else if decide (l < f) || !isW s 1 16 then -4 else if n = 8 then -5 else nI n
def aRem (n : Nat) (x : Int32) : Int32 := if inB x n then nI (n - 1) else -2
def aPhc (n : Nat) (sq : Nat → S4) (x : Int32) : Int32 := if inB x n then nI (phF (sq (NN x))) else -2
def aPhcol (n : Nat) (sq : Nat → S4) (x p : Int32) : Int32 := if !inB x n then -2 else if !inB p (phF (sq (NN x))) then -3 else nI ((sq (NN x)).2.1 + NN p * (sq (NN x)).2.2.2)
def aSee (R C : Nat) (g : Nat → Int32) (cm : Cm) (n : Nat) (sq : Nat → S4) (x p r c : Int32) : Int32 := if !inB x n then -2 else if !inB p (phF (sq (NN x))) then -3 else if !(inB r R && inB c C) then -1 else b2i (psF g cm (sq (NN x)) (NN p) (NN r) (NN c))
def fpP (g : Nat → Int32) (cm : Cm) (q : S4) (p C : Nat) : Nat → Bool := fun z => psF g cm q p (z / C) (z % C)
def aFoot (R C : Nat) (g : Nat → Int32) (cm : Cm) (n : Nat) (sq : Nat → S4) (x p : Int32) : Int32 := if !inB x n then -2 else if !inB p (phF (sq (NN x))) then -3 else nI (cnt (fpP g cm (sq (NN x)) (NN p) C) (R * C))
def aCov (R C : Nat) (g : Nat → Int32) (cm : Cm) (n : Nat) (sq : Nat → S4) (x y : Int32) : Int32 := if inB x R && inB y C then nI (covF g cm sq (NN x) (NN y) n) else -1
def aGapc (R C : Nat) (g : Nat → Int32) (cm : Cm) (n : Nat) (sq : Nat → S4) (x : Int32) : Int32 := if isW x 1 9 then nI (cnt (gapP g cm sq n C (NN x)) (R * C)) else -4
/-- the k-th of those below N for which p holds -/
def nthF (p : Nat → Bool) (k : Nat) : Nat → Option Nat
  | 0 => none
  | N + 1 => match nthF p k N with
    | some z => some z
    | none => if p N && decide (cnt p N = k) then some N else none
theorem nth_stop {p : Nat → Bool} {k z N : Nat} (h : nthF p k (z + 1) = some z) (hN : z + 1 ≤ N) : nthF p k N = some z := by
  induction N with
  | zero => omega
  | succ N ih =>
    by_cases e : z + 1 = N + 1
    · rw [← e]; exact h
    · simp only [nthF, ih (by omega)]
def aGapat (R C : Nat) (g : Nat → Int32) (cm : Cm) (n : Nat) (sq : Nat → S4) (x k : Int32) : Int32 := if !isW x 1 9 || decide (k < 0) then -4 else match nthF (gapP g cm sq n C (NN x)) (NN k) (R * C) with
  | some z => nI (100 * (z / C) + z % C)
  | none => -6
def mn2 (a b : Nat) : Nat := if a < b then a else b
def pct (both one other : Nat) : Int32 := if mn2 one other = 0 then 0 else nI (both * 100) / nI (mn2 one other)
def aFwd (R C : Nat) (g : Nat → Int32) (cm : Cm) (n : Nat) (sq : Nat → S4) (x p : Int32) : Int32 := if !inB x n then -2 else if !(inB p (phF (sq (NN x))) && inB (p + 1) (phF (sq (NN x)))) then -3 else
  pct (cnt (fun z => fpP g cm (sq (NN x)) (NN p) C z && fpP g cm (sq (NN x)) (NN p + 1) C z) (R * C)) (cnt (fpP g cm (sq (NN x)) (NN p) C) (R * C)) (cnt (fpP g cm (sq (NN x)) (NN p + 1) C) (R * C))
def ssP (g : Nat → Int32) (cm : Cm) (q : S4) (C : Nat) : Nat → Bool := fun z => ssF g cm q (z / C) (z % C)
def aSide (R C : Nat) (g : Nat → Int32) (cm : Cm) (n : Nat) (sq : Nat → S4) (x y : Int32) : Int32 := if !(inB x n && inB y n) then -2 else
  pct (cnt (fun z => ssP g cm (sq (NN x)) C z && ssP g cm (sq (NN y)) C z) (R * C)) (cnt (ssP g cm (sq (NN x)) C) (R * C)) (cnt (ssP g cm (sq (NN y)) C) (R * C))
def CA (σ : Sg) (R C n : Nat) (sq : Nat → S4) : Prop := σ 21 0 = nI R ∧ σ 21 1 = nI C ∧ 3 ≤ R ∧ R ≤ 10 ∧ 4 ≤ C ∧ C ≤ 16 ∧ hB (σ 22) (σ 23 0) ∧ LSt σ 0 n sq

set_option maxRecDepth 100000 in
set_option maxHeartbeats 4000000 in
theorem c_X8_resize (l : Launch) (G : Gm) (σ : Sg) (x y : Int32) : Met l yX8_resize wsX8_resize (rmO 1 23) (PP G [.ref (G.2.1 20), .int x, .int y] σ) (QI G (RV (aRes x y) (if isW x 3 10 && isW y 4 16 then u2 (va_up (u2 (u2 σ 21 0 x) 21 1 y) 22 (zr (σ 22) 160)) 16 0 0 else σ))) 0 0 (fr G) := by
  refine r_start (cc := cX8_resize) (maxL := 3) (ret := (some .int)) (by decide) rfl (Nat.le_of_ble_eq_true rfl) ?_
  intro pz ez sz mz below meth cz ls CF hr hlk hK hH hS hl
  have CF : CallFix pz mz cz cX8_resize 3 sz (List.toArray [.ref (G.2.1 20), .int x, .int y]) wsX8_resize RX8 := CF
  have hx := CF.1
  have hb := CF.2.1
  have hown := CF.2.2.2.1
  have hts := CF.2.2.2.2
  have hl : lv_has ls 3 [(0, .ref (G.2.1 20)), (1, .int x), (2, .int y)] := hl
  have K1 := hts _ (List.mem_of_getElem? (i := 1) rfl)
  have K2 := hts _ (List.mem_of_getElem? (i := 2) rfl)
  have JX8 : ∀ w ∈ wsX80, w ∈ wsX8_resize := in_r _ [21, 22, 23, 24, 25, 26, 27] (by decide +kernel)
  refine lv_iload_n hx hb dX8_resize_0 rfl (lv_at hl 1 rfl) ?_
  refine lv_iconst (v := 3) hx hb dX8_resize_1 (by decide) ?_
  refine lv_bipush (v := 10) hx hb dX8_resize_2 (by decide) ?_
  refine r_cR hS (r_runS (n := 3) (As := [.int x, .int (3 : Int32), .int (10 : Int32)]) (rest := []) CF hK hH (c_X8_isWithin l G σ x (3 : Int32) (10 : Int32)) gX8_resize_X8_isWithin rfl rfl rfl (by decide +kernel) ⟨⟨Nat.le_of_ble_eq_true rfl, Nat.le_of_ble_eq_true rfl⟩, Nat.le_of_ble_eq_true rfl, Nat.le_of_ble_eq_true rfl⟩ rfl hl.1 rfl (Nat.le_of_ble_eq_true rfl) dX8_resize_4) (fun H locs hH hS => ?_)
  refine r_ifeqB (tgt := 20) hx hb dX8_resize_7 (by decide) (fun c7 => ?_) (fun c7 => ?_)
  · refine lv_bipush (v := (-4)) hx hb dX8_resize_20 (by decide) ?_
    exact r_iret CF hr hlk hH hS dX8_resize_22 ⟨by simp [aRes, c7], by simp [c7]⟩
  · refine lv_iload_n hx hb dX8_resize_10 rfl (lv_at hl 2 rfl) ?_
    refine lv_iconst (v := 4) hx hb dX8_resize_11 (by decide) ?_
    refine lv_bipush (v := 16) hx hb dX8_resize_12 (by decide) ?_
    refine r_cR hS (r_runS (n := 3) (As := [.int y, .int (4 : Int32), .int (16 : Int32)]) (rest := []) CF hK hH (c_X8_isWithin l G σ y (4 : Int32) (16 : Int32)) gX8_resize_X8_isWithin rfl rfl rfl (by decide +kernel) ⟨⟨Nat.le_of_ble_eq_true rfl, Nat.le_of_ble_eq_true rfl⟩, Nat.le_of_ble_eq_true rfl, Nat.le_of_ble_eq_true rfl⟩ rfl hl.1 rfl (Nat.le_of_ble_eq_true rfl) dX8_resize_14) (fun H locs hH hS => ?_)
    refine r_ifneB (tgt := 23) hx hb dX8_resize_17 (by decide) (fun c17 => ?_) (fun c17 => ?_)
    · refine lv_aload_n hx hb dX8_resize_23 rfl (lv_at hl 0 rfl) ?_
      refine r_get CF hK hH 20 (Nat.le_of_ble_eq_true rfl) rfl rfl JX8 0 (by decide) K1 rfl dX8_resize_24 ?_
      refine lv_iload_n hx hb dX8_resize_27 rfl (lv_at hl 1 rfl) ?_
      refine lv_iload_n hx hb dX8_resize_28 rfl (lv_at hl 2 rfl) ?_
      refine r_cV hS (r_runV (n := 2) (As := [.int x, .int y]) (rest := []) CF hK hH (c_X7_flatten l G σ x y) gX8_resize_X7_flatten rfl rfl rfl rfl (by decide +kernel) ⟨⟨Nat.le_of_ble_eq_true rfl, Nat.le_of_ble_eq_true rfl⟩, Nat.le_of_ble_eq_true rfl, Nat.le_of_ble_eq_true rfl⟩ 21 rfl (Nat.le_of_ble_eq_true rfl) rfl rfl rfl hl.1 rfl (Nat.le_of_ble_eq_true rfl) dX8_resize_29) (fun H locs hH hS => ?_)
      refine lv_aload_n hx hb dX8_resize_32 rfl (lv_at hl 0 rfl) ?_
      refine r_get CF hK hH 20 (Nat.le_of_ble_eq_true rfl) rfl rfl JX8 3 (by decide) K2 rfl dX8_resize_33 ?_
      refine r_cV hS (r_runV (n := 0) (As := []) (rest := []) CF hK hH (c_X6_clear l G (va_up (u2 (u2 σ 21 0 x) 21 1 y) 22 (zr (σ 22) 160)) 0 (by decide)) gX8_resize_X6_clear rfl rfl rfl rfl (by decide +kernel) ⟨⟨Nat.le_of_ble_eq_true rfl, Nat.le_of_ble_eq_true rfl⟩, Nat.le_of_ble_eq_true rfl, Nat.le_of_ble_eq_true rfl⟩ (16 + 0) rfl (by omega) (we_l G (by decide) _) rfl rfl hl.1 rfl (Nat.le_of_ble_eq_true rfl) dX8_resize_36) (fun H locs hH hS => ?_)
      refine lv_iload_n hx hb dX8_resize_39 rfl (lv_at hl 1 rfl) ?_
      refine lv_iload_n hx hb dX8_resize_40 rfl (lv_at hl 2 rfl) ?_
      refine lv_imul hx hb dX8_resize_41 ?_
      exact r_iret CF hr hlk hH hS dX8_resize_42 ⟨by simp [aRes, c7, c17], by simp [c7, c17]⟩
    · refine lv_bipush (v := (-4)) hx hb dX8_resize_20 (by decide) ?_
      exact r_iret CF hr hlk hH hS dX8_resize_22 ⟨by simp [aRes, c7, c17], by simp [c7, c17]⟩

set_option maxRecDepth 100000 in
set_option maxHeartbeats 4000000 in
theorem c_X8_setHeight (l : Launch) (G : Gm) (σ : Sg) (R C n : Nat) (sq : Nat → S4) (hA : CA σ R C n sq) (x y h : Int32) : Met l yX8_setHeight wsX8_setHeight (rmO 1 24) (PP G [.ref (G.2.1 20), .int x, .int y, .int h] σ) (QI G (RV (aSetH R C (σ 22) x y h) (if (inB x R && inB y C) && isW h 0 999 then u2 σ 22 (16 * NN x + NN y) h else σ))) 0 0 (fr G) := by
  refine r_start (cc := cX8_setHeight) (maxL := 5) (ret := (some .int)) (by decide) rfl (Nat.le_of_ble_eq_true rfl) ?_
  intro pz ez sz mz below meth cz ls CF hr hlk hK hH hS hl
  have CF : CallFix pz mz cz cX8_setHeight 5 sz (List.toArray [.ref (G.2.1 20), .int x, .int y, .int h]) wsX8_setHeight RX8 := CF
  have hx := CF.1
  have hb := CF.2.1
  have hown := CF.2.2.2.1
  have hts := CF.2.2.2.2
  have hl : lv_has ls 5 [(0, .ref (G.2.1 20)), (1, .int x), (2, .int y), (3, .int h)] := hl
  have K1 := hts _ (List.mem_of_getElem? (i := 1) rfl)
  have JX8 : ∀ w ∈ wsX80, w ∈ wsX8_setHeight := in_r _ [22, 23, 24, 25, 26, 27, 28] (by decide +kernel)
  obtain ⟨hR, hC, hR3, hR10, hC4, hC16, hh, hL⟩ := hA
  have hn : σ (16 + 0) 0 = nI n := hL.1
  have hn8 := hL.2.1
  refine lv_aload_n hx hb dX8_setHeight_0 rfl (lv_at hl 0 rfl) ?_
  refine r_get CF hK hH 20 (Nat.le_of_ble_eq_true rfl) rfl rfl JX8 0 (by decide) K1 rfl dX8_setHeight_1 ?_
  refine lv_iload_n hx hb dX8_setHeight_4 rfl (lv_at hl 1 rfl) ?_
  refine lv_iload_n hx hb dX8_setHeight_5 rfl (lv_at hl 2 rfl) ?_
  refine r_cR hS (r_runV (n := 2) (As := [.int x, .int y]) (rest := []) CF hK hH (c_X7_contains l G σ x y) gX8_setHeight_X7_contains rfl rfl rfl rfl (by decide +kernel) ⟨⟨Nat.le_of_ble_eq_true rfl, Nat.le_of_ble_eq_true rfl⟩, Nat.le_of_ble_eq_true rfl, Nat.le_of_ble_eq_true rfl⟩ 21 rfl (Nat.le_of_ble_eq_true rfl) rfl rfl rfl hl.1 rfl (Nat.le_of_ble_eq_true rfl) dX8_setHeight_6) (fun H locs hH hS => ?_)
  refine r_top (show (b2i (isC σ x y) : Int32) = b2i (inB x R && inB y C) from (by rw [isC_eq hR hC])) ?_
  refine r_ifneB (tgt := 14) hx hb dX8_setHeight_9 (by decide) (fun c9 => ?_) (fun c9 => ?_)
  · obtain ⟨r, c, hr1, hc1, ex, ey, exN, eyN⟩ := inC_of c9 hR10 hC16
    refine lv_iload_n hx hb dX8_setHeight_14 rfl (lv_at hl 3 rfl) ?_
    refine lv_iconst (v := 0) hx hb dX8_setHeight_15 (by decide) ?_
    refine lv_sipush (v := 999) hx hb dX8_setHeight_16 (by decide) ?_
    refine r_cR hS (r_runS (n := 3) (As := [.int h, .int (0 : Int32), .int (999 : Int32)]) (rest := []) CF hK hH (c_X8_isWithin l G σ h (0 : Int32) (999 : Int32)) gX8_setHeight_X8_isWithin rfl rfl rfl (by decide +kernel) ⟨⟨Nat.le_of_ble_eq_true rfl, Nat.le_of_ble_eq_true rfl⟩, Nat.le_of_ble_eq_true rfl, Nat.le_of_ble_eq_true rfl⟩ rfl hl.1 rfl (Nat.le_of_ble_eq_true rfl) dX8_setHeight_19) (fun H locs hH hS => ?_)
    refine r_ifneB (tgt := 28) hx hb dX8_setHeight_22 (by decide) (fun c22 => ?_) (fun c22 => ?_)
    · refine lv_aload_n hx hb dX8_setHeight_28 rfl (lv_at hl 0 rfl) ?_
      refine r_get CF hK hH 20 (Nat.le_of_ble_eq_true rfl) rfl rfl JX8 0 (by decide) K1 rfl dX8_setHeight_29 ?_
      refine lv_iload_n hx hb dX8_setHeight_32 rfl (lv_at hl 1 rfl) ?_
      refine r_top (show (x : Int32) = nI r from ex) ?_
      refine lv_iload_n hx hb dX8_setHeight_33 rfl (lv_at hl 2 rfl) ?_
      refine r_top (show (y : Int32) = nI c from ey) ?_
      refine r_cR hS (r_runV (n := 2) (As := [.int (nI r), .int (nI c)]) (rest := []) CF hK hH (c_X7_heightAt l G σ r c (by omega) (by omega)) gX8_setHeight_X7_heightAt rfl rfl rfl rfl (by decide +kernel) ⟨⟨Nat.le_of_ble_eq_true rfl, Nat.le_of_ble_eq_true rfl⟩, Nat.le_of_ble_eq_true rfl, Nat.le_of_ble_eq_true rfl⟩ 21 rfl (Nat.le_of_ble_eq_true rfl) rfl rfl rfl hl.1 rfl (Nat.le_of_ble_eq_true rfl) dX8_setHeight_34) (fun H locs hH hS => ?_)
      refine lv_istore (lv' := [(4, .int (σ 22 (16 * r + c))), (0, .ref (G.2.1 20)), (1, .int x), (2, .int y), (3, .int h)]) hx hb dX8_setHeight_37 hl (by decide) rfl (fun ls hl => ?_)
      refine lv_aload_n hx hb dX8_setHeight_39 rfl (lv_at hl 1 rfl) ?_
      refine r_get CF hK hH 20 (Nat.le_of_ble_eq_true rfl) rfl rfl JX8 0 (by decide) K1 rfl dX8_setHeight_40 ?_
      refine lv_iload_n hx hb dX8_setHeight_43 rfl (lv_at hl 2 rfl) ?_
      refine r_top (show (x : Int32) = nI r from ex) ?_
      refine lv_iload_n hx hb dX8_setHeight_44 rfl (lv_at hl 3 rfl) ?_
      refine r_top (show (y : Int32) = nI c from ey) ?_
      refine lv_iload_n hx hb dX8_setHeight_45 rfl (lv_at hl 4 rfl) ?_
      refine r_cV hS (r_runV (n := 3) (As := [.int (nI r), .int (nI c), .int h]) (rest := []) CF hK hH (c_X7_put l G σ r c h (by omega) (by omega)) gX8_setHeight_X7_put rfl rfl rfl rfl (by decide +kernel) ⟨⟨Nat.le_of_ble_eq_true rfl, Nat.le_of_ble_eq_true rfl⟩, Nat.le_of_ble_eq_true rfl, Nat.le_of_ble_eq_true rfl⟩ 21 rfl (Nat.le_of_ble_eq_true rfl) rfl rfl rfl hl.1 rfl (Nat.le_of_ble_eq_true rfl) dX8_setHeight_46) (fun H locs hH hS => ?_)
      refine lv_iload hx hb dX8_setHeight_49 (lv_at hl 0 rfl) ?_
      exact r_iret CF hr hlk hH hS dX8_setHeight_51 ⟨by simp [aSetH, c9, c22, exN, eyN], by simp [c9, c22, exN, eyN]⟩
    · refine lv_bipush (v := (-4)) hx hb dX8_setHeight_25 (by decide) ?_
      exact r_iret CF hr hlk hH hS dX8_setHeight_27 ⟨by simp [aSetH, c9, c22], by simp [c9, c22]⟩
  · refine lv_iconst (v := (-1)) hx hb dX8_setHeight_12 (by decide) ?_
    exact r_iret CF hr hlk hH hS dX8_setHeight_13 ⟨by simp [aSetH, c9], by simp [c9]⟩

set_option maxRecDepth 100000 in
set_option maxHeartbeats 4000000 in
theorem c_X8_height (l : Launch) (G : Gm) (σ : Sg) (R C n : Nat) (sq : Nat → S4) (hA : CA σ R C n sq) (x y : Int32) : Met l yX8_height wsX8_height (rmO 1 23) (PP G [.ref (G.2.1 20), .int x, .int y] σ) (QI G (RV (aHgt R C (σ 22) x y) σ)) 0 0 (fr G) := by
  refine r_start (cc := cX8_height) (maxL := 3) (ret := (some .int)) (by decide) rfl (Nat.le_of_ble_eq_true rfl) ?_
  intro pz ez sz mz below meth cz ls CF hr hlk hK hH hS hl
  have CF : CallFix pz mz cz cX8_height 3 sz (List.toArray [.ref (G.2.1 20), .int x, .int y]) wsX8_height RX8 := CF
  have hx := CF.1
  have hb := CF.2.1
  have hown := CF.2.2.2.1
  have hts := CF.2.2.2.2
  have hl : lv_has ls 3 [(0, .ref (G.2.1 20)), (1, .int x), (2, .int y)] := hl
  have K1 := hts _ (List.mem_of_getElem? (i := 1) rfl)
  have JX8 : ∀ w ∈ wsX80, w ∈ wsX8_height := in_r _ [14, 15, 16, 17, 18, 19, 20] (by decide +kernel)
  obtain ⟨hR, hC, hR3, hR10, hC4, hC16, hh, hL⟩ := hA
  have hn : σ (16 + 0) 0 = nI n := hL.1
  have hn8 := hL.2.1
  refine lv_aload_n hx hb dX8_height_0 rfl (lv_at hl 0 rfl) ?_
  refine r_get CF hK hH 20 (Nat.le_of_ble_eq_true rfl) rfl rfl JX8 0 (by decide) K1 rfl dX8_height_1 ?_
  refine lv_iload_n hx hb dX8_height_4 rfl (lv_at hl 1 rfl) ?_
  refine lv_iload_n hx hb dX8_height_5 rfl (lv_at hl 2 rfl) ?_
  refine r_cR hS (r_runV (n := 2) (As := [.int x, .int y]) (rest := []) CF hK hH (c_X7_contains l G σ x y) gX8_height_X7_contains rfl rfl rfl rfl (by decide +kernel) ⟨⟨Nat.le_of_ble_eq_true rfl, Nat.le_of_ble_eq_true rfl⟩, Nat.le_of_ble_eq_true rfl, Nat.le_of_ble_eq_true rfl⟩ 21 rfl (Nat.le_of_ble_eq_true rfl) rfl rfl rfl hl.1 rfl (Nat.le_of_ble_eq_true rfl) dX8_height_6) (fun H locs hH hS => ?_)
  refine r_top (show (b2i (isC σ x y) : Int32) = b2i (inB x R && inB y C) from (by rw [isC_eq hR hC])) ?_
  refine r_ifneB (tgt := 14) hx hb dX8_height_9 (by decide) (fun c9 => ?_) (fun c9 => ?_)
  · obtain ⟨r, c, hr1, hc1, ex, ey, exN, eyN⟩ := inC_of c9 hR10 hC16
    refine lv_aload_n hx hb dX8_height_14 rfl (lv_at hl 0 rfl) ?_
    refine r_get CF hK hH 20 (Nat.le_of_ble_eq_true rfl) rfl rfl JX8 0 (by decide) K1 rfl dX8_height_15 ?_
    refine lv_iload_n hx hb dX8_height_18 rfl (lv_at hl 1 rfl) ?_
    refine r_top (show (x : Int32) = nI r from ex) ?_
    refine lv_iload_n hx hb dX8_height_19 rfl (lv_at hl 2 rfl) ?_
    refine r_top (show (y : Int32) = nI c from ey) ?_
    refine r_cR hS (r_runV (n := 2) (As := [.int (nI r), .int (nI c)]) (rest := []) CF hK hH (c_X7_heightAt l G σ r c (by omega) (by omega)) gX8_height_X7_heightAt rfl rfl rfl rfl (by decide +kernel) ⟨⟨Nat.le_of_ble_eq_true rfl, Nat.le_of_ble_eq_true rfl⟩, Nat.le_of_ble_eq_true rfl, Nat.le_of_ble_eq_true rfl⟩ 21 rfl (Nat.le_of_ble_eq_true rfl) rfl rfl rfl hl.1 rfl (Nat.le_of_ble_eq_true rfl) dX8_height_20) (fun H locs hH hS => ?_)
    exact r_iret CF hr hlk hH hS dX8_height_23 ⟨by simp [aHgt, c9, exN, eyN], rfl⟩
  · refine lv_iconst (v := (-1)) hx hb dX8_height_12 (by decide) ?_
    exact r_iret CF hr hlk hH hS dX8_height_13 ⟨by simp [aHgt, c9], rfl⟩

set_option maxRecDepth 100000 in
set_option maxHeartbeats 4000000 in
theorem c_X8_setAltitude (l : Launch) (G : Gm) (σ : Sg) (x : Int32) : Met l yX8_setAltitude wsX8_setAltitude (rmO 1 22) (PP G [.ref (G.2.1 20), .int x] σ) (QI G (RV (aAlt (σ 23 0) x) (if isW x 100 5000 then u2 σ 23 0 x else σ))) 0 0 (fr G) := by
  refine r_start (cc := cX8_setAltitude) (maxL := 3) (ret := (some .int)) (by decide) rfl (Nat.le_of_ble_eq_true rfl) ?_
  intro pz ez sz mz below meth cz ls CF hr hlk hK hH hS hl
  have CF : CallFix pz mz cz cX8_setAltitude 3 sz (List.toArray [.ref (G.2.1 20), .int x]) wsX8_setAltitude RX8 := CF
  have hx := CF.1
  have hb := CF.2.1
  have hown := CF.2.2.2.1
  have hts := CF.2.2.2.2
  have hl : lv_has ls 3 [(0, .ref (G.2.1 20)), (1, .int x)] := hl
  have K1 := hts _ (List.mem_of_getElem? (i := 1) rfl)
  have K2 := hts _ (List.mem_of_getElem? (i := 2) rfl)
  have JX1 : ∀ w ∈ wsX10, w ∈ wsX8_setAltitude := in_r _ [14, 15, 16, 17] (by decide +kernel)
  have JX8 : ∀ w ∈ wsX80, w ∈ wsX8_setAltitude := in_r _ [7, 8, 9, 10, 11, 12, 13] (by decide +kernel)
  refine lv_iload_n hx hb dX8_setAltitude_0 rfl (lv_at hl 1 rfl) ?_
  refine lv_bipush (v := 100) hx hb dX8_setAltitude_1 (by decide) ?_
  refine lv_sipush (v := 5000) hx hb dX8_setAltitude_3 (by decide) ?_
  refine r_cR hS (r_runS (n := 3) (As := [.int x, .int (100 : Int32), .int (5000 : Int32)]) (rest := []) CF hK hH (c_X8_isWithin l G σ x (100 : Int32) (5000 : Int32)) gX8_setAltitude_X8_isWithin rfl rfl rfl (by decide +kernel) ⟨⟨Nat.le_of_ble_eq_true rfl, Nat.le_of_ble_eq_true rfl⟩, Nat.le_of_ble_eq_true rfl, Nat.le_of_ble_eq_true rfl⟩ rfl hl.1 rfl (Nat.le_of_ble_eq_true rfl) dX8_setAltitude_6) (fun H locs hH hS => ?_)
  refine r_ifneB (tgt := 15) hx hb dX8_setAltitude_9 (by decide) (fun c9 => ?_) (fun c9 => ?_)
  · refine lv_aload_n hx hb dX8_setAltitude_15 rfl (lv_at hl 0 rfl) ?_
    refine r_get CF hK hH 20 (Nat.le_of_ble_eq_true rfl) rfl rfl JX8 1 (by decide) K1 rfl dX8_setAltitude_16 ?_
    refine r_get CF hK hH 23 (Nat.le_of_ble_eq_true rfl) rfl rfl JX1 0 (by decide) K2 rfl dX8_setAltitude_19 ?_
    refine lv_istore_n (lv' := [(2, .int (σ 23 0)), (0, .ref (G.2.1 20)), (1, .int x)]) hx hb dX8_setAltitude_22 rfl hl (by decide) rfl (fun ls hl => ?_)
    refine lv_aload_n hx hb dX8_setAltitude_23 rfl (lv_at hl 1 rfl) ?_
    refine r_get CF hK hH 20 (Nat.le_of_ble_eq_true rfl) rfl rfl JX8 1 (by decide) K1 rfl dX8_setAltitude_24 ?_
    refine lv_iload_n hx hb dX8_setAltitude_27 rfl (lv_at hl 2 rfl) ?_
    refine r_put CF hK hH hS 23 (Nat.le_of_ble_eq_true rfl) rfl rfl JX1 tyX1 tyX1_ok nmX1 0 (by decide) K2 rfl (by decide +kernel) (Nat.le_of_ble_eq_true rfl) rfl dX8_setAltitude_28 (fun H locs hH hS => ?_)
    refine lv_iload_n hx hb dX8_setAltitude_31 rfl (lv_at hl 0 rfl) ?_
    exact r_iret CF hr hlk hH hS dX8_setAltitude_32 ⟨by simp [aAlt, c9], by simp [c9]⟩
  · refine lv_bipush (v := (-4)) hx hb dX8_setAltitude_12 (by decide) ?_
    exact r_iret CF hr hlk hH hS dX8_setAltitude_14 ⟨by simp [aAlt, c9], by simp [c9]⟩

set_option maxRecDepth 100000 in
set_option maxHeartbeats 4000000 in
theorem c_X8_setFields (l : Launch) (G : Gm) (σ : Sg) (x y : Int32) : Met l yX8_setFields wsX8_setFields (rmO 1 22) (PP G [.ref (G.2.1 20), .int x, .int y] σ) (QI G (RV (aFld (σ 23 1) (σ 23 2) x y) (if isW x 1 50 && isW y 1 50 then u2 (u2 σ 23 1 x) 23 2 y else σ))) 0 0 (fr G) := by
  refine r_start (cc := cX8_setFields) (maxL := 4) (ret := (some .int)) (by decide) rfl (Nat.le_of_ble_eq_true rfl) ?_
  intro pz ez sz mz below meth cz ls CF hr hlk hK hH hS hl
  have CF : CallFix pz mz cz cX8_setFields 4 sz (List.toArray [.ref (G.2.1 20), .int x, .int y]) wsX8_setFields RX8 := CF
  have hx := CF.1
  have hb := CF.2.1
  have hown := CF.2.2.2.1
  have hts := CF.2.2.2.2
  have hl : lv_has ls 4 [(0, .ref (G.2.1 20)), (1, .int x), (2, .int y)] := hl
  have K1 := hts _ (List.mem_of_getElem? (i := 1) rfl)
  have K2 := hts _ (List.mem_of_getElem? (i := 2) rfl)
  have K3 := hts _ (List.mem_of_getElem? (i := 3) rfl)
  have JX1 : ∀ w ∈ wsX10, w ∈ wsX8_setFields := in_r _ [15, 16, 17, 18] (by decide +kernel)
  have JX8 : ∀ w ∈ wsX80, w ∈ wsX8_setFields := in_r _ [8, 9, 10, 11, 12, 13, 14] (by decide +kernel)
  refine lv_iload_n hx hb dX8_setFields_0 rfl (lv_at hl 1 rfl) ?_
  refine lv_iconst (v := 1) hx hb dX8_setFields_1 (by decide) ?_
  refine lv_bipush (v := 50) hx hb dX8_setFields_2 (by decide) ?_
  refine r_cR hS (r_runS (n := 3) (As := [.int x, .int (1 : Int32), .int (50 : Int32)]) (rest := []) CF hK hH (c_X8_isWithin l G σ x (1 : Int32) (50 : Int32)) gX8_setFields_X8_isWithin rfl rfl rfl (by decide +kernel) ⟨⟨Nat.le_of_ble_eq_true rfl, Nat.le_of_ble_eq_true rfl⟩, Nat.le_of_ble_eq_true rfl, Nat.le_of_ble_eq_true rfl⟩ rfl hl.1 rfl (Nat.le_of_ble_eq_true rfl) dX8_setFields_4) (fun H locs hH hS => ?_)
  refine r_ifeqB (tgt := 20) hx hb dX8_setFields_7 (by decide) (fun c7 => ?_) (fun c7 => ?_)
  · refine lv_bipush (v := (-4)) hx hb dX8_setFields_20 (by decide) ?_
    exact r_iret CF hr hlk hH hS dX8_setFields_22 ⟨by simp [aFld, c7], by simp [c7]⟩
  · refine lv_iload_n hx hb dX8_setFields_10 rfl (lv_at hl 2 rfl) ?_
    refine lv_iconst (v := 1) hx hb dX8_setFields_11 (by decide) ?_
    refine lv_bipush (v := 50) hx hb dX8_setFields_12 (by decide) ?_
    refine r_cR hS (r_runS (n := 3) (As := [.int y, .int (1 : Int32), .int (50 : Int32)]) (rest := []) CF hK hH (c_X8_isWithin l G σ y (1 : Int32) (50 : Int32)) gX8_setFields_X8_isWithin rfl rfl rfl (by decide +kernel) ⟨⟨Nat.le_of_ble_eq_true rfl, Nat.le_of_ble_eq_true rfl⟩, Nat.le_of_ble_eq_true rfl, Nat.le_of_ble_eq_true rfl⟩ rfl hl.1 rfl (Nat.le_of_ble_eq_true rfl) dX8_setFields_14) (fun H locs hH hS => ?_)
    refine r_ifneB (tgt := 23) hx hb dX8_setFields_17 (by decide) (fun c17 => ?_) (fun c17 => ?_)
    · refine lv_aload_n hx hb dX8_setFields_23 rfl (lv_at hl 0 rfl) ?_
      refine r_get CF hK hH 20 (Nat.le_of_ble_eq_true rfl) rfl rfl JX8 1 (by decide) K1 rfl dX8_setFields_24 ?_
      refine r_get CF hK hH 23 (Nat.le_of_ble_eq_true rfl) rfl rfl JX1 1 (by decide) K2 rfl dX8_setFields_27 ?_
      refine lv_iload_n hx hb dX8_setFields_30 rfl (lv_at hl 1 rfl) ?_
      refine lv_icmp_ne (tgt := 45) hx hb dX8_setFields_31 (by decide) (fun c31 => ?_) (fun c31 => ?_)
      · refine lv_iconst (v := 1) hx hb dX8_setFields_45 (by decide) ?_
        refine lv_goto (tgt := 50) hx hb dX8_setFields_46 (by decide) ?_
        refine lv_istore_n (lv' := [(3, .int (1 : Int32)), (0, .ref (G.2.1 20)), (1, .int x), (2, .int y)]) hx hb dX8_setFields_50 rfl hl (by decide) rfl (fun ls hl => ?_)
        refine lv_aload_n hx hb dX8_setFields_51 rfl (lv_at hl 1 rfl) ?_
        refine r_get CF hK hH 20 (Nat.le_of_ble_eq_true rfl) rfl rfl JX8 1 (by decide) K1 rfl dX8_setFields_52 ?_
        refine lv_iload_n hx hb dX8_setFields_55 rfl (lv_at hl 2 rfl) ?_
        refine r_put CF hK hH hS 23 (Nat.le_of_ble_eq_true rfl) rfl rfl JX1 tyX1 tyX1_ok nmX1 1 (by decide) K2 rfl (by decide +kernel) (Nat.le_of_ble_eq_true rfl) rfl dX8_setFields_56 (fun H locs hH hS => ?_)
        refine lv_aload_n hx hb dX8_setFields_59 rfl (lv_at hl 1 rfl) ?_
        refine r_get CF hK hH 20 (Nat.le_of_ble_eq_true rfl) rfl rfl JX8 1 (by decide) K1 rfl dX8_setFields_60 ?_
        refine lv_iload_n hx hb dX8_setFields_63 rfl (lv_at hl 3 rfl) ?_
        refine r_put CF hK hH hS 23 (Nat.le_of_ble_eq_true rfl) rfl rfl JX1 tyX1 tyX1_ok nmX1 2 (by decide) K3 rfl (by decide +kernel) (Nat.le_of_ble_eq_true rfl) rfl dX8_setFields_64 (fun H locs hH hS => ?_)
        refine lv_iload_n hx hb dX8_setFields_67 rfl (lv_at hl 0 rfl) ?_
        refine lv_if_eq (tgt := 75) hx hb dX8_setFields_68 (by decide) (fun c68 => ?_) (fun c68 => ?_)
        · exact absurd c68 (by decide)
        · refine lv_iconst (v := 1) hx hb dX8_setFields_71 (by decide) ?_
          refine lv_goto (tgt := 76) hx hb dX8_setFields_72 (by decide) ?_
          exact r_iret CF hr hlk hH hS dX8_setFields_76 ⟨by simp [aFld, c7, c17, c31, c68], by simp [c7, c17, c31, c68]⟩
      · refine lv_aload_n hx hb dX8_setFields_34 rfl (lv_at hl 0 rfl) ?_
        refine r_get CF hK hH 20 (Nat.le_of_ble_eq_true rfl) rfl rfl JX8 1 (by decide) K1 rfl dX8_setFields_35 ?_
        refine r_get CF hK hH 23 (Nat.le_of_ble_eq_true rfl) rfl rfl JX1 2 (by decide) K3 rfl dX8_setFields_38 ?_
        refine lv_iload_n hx hb dX8_setFields_41 rfl (lv_at hl 2 rfl) ?_
        refine lv_icmp_eq (tgt := 49) hx hb dX8_setFields_42 (by decide) (fun c42 => ?_) (fun c42 => ?_)
        · refine lv_iconst (v := 0) hx hb dX8_setFields_49 (by decide) ?_
          refine lv_istore_n (lv' := [(3, .int (0 : Int32)), (0, .ref (G.2.1 20)), (1, .int x), (2, .int y)]) hx hb dX8_setFields_50 rfl hl (by decide) rfl (fun ls hl => ?_)
          refine lv_aload_n hx hb dX8_setFields_51 rfl (lv_at hl 1 rfl) ?_
          refine r_get CF hK hH 20 (Nat.le_of_ble_eq_true rfl) rfl rfl JX8 1 (by decide) K1 rfl dX8_setFields_52 ?_
          refine lv_iload_n hx hb dX8_setFields_55 rfl (lv_at hl 2 rfl) ?_
          refine r_put CF hK hH hS 23 (Nat.le_of_ble_eq_true rfl) rfl rfl JX1 tyX1 tyX1_ok nmX1 1 (by decide) K2 rfl (by decide +kernel) (Nat.le_of_ble_eq_true rfl) rfl dX8_setFields_56 (fun H locs hH hS => ?_)
          refine lv_aload_n hx hb dX8_setFields_59 rfl (lv_at hl 1 rfl) ?_
          refine r_get CF hK hH 20 (Nat.le_of_ble_eq_true rfl) rfl rfl JX8 1 (by decide) K1 rfl dX8_setFields_60 ?_
          refine lv_iload_n hx hb dX8_setFields_63 rfl (lv_at hl 3 rfl) ?_
          refine r_put CF hK hH hS 23 (Nat.le_of_ble_eq_true rfl) rfl rfl JX1 tyX1 tyX1_ok nmX1 2 (by decide) K3 rfl (by decide +kernel) (Nat.le_of_ble_eq_true rfl) rfl dX8_setFields_64 (fun H locs hH hS => ?_)
          refine lv_iload_n hx hb dX8_setFields_67 rfl (lv_at hl 0 rfl) ?_
          refine lv_if_eq (tgt := 75) hx hb dX8_setFields_68 (by decide) (fun c68 => ?_) (fun c68 => ?_)
          · refine lv_iconst (v := 0) hx hb dX8_setFields_75 (by decide) ?_
            exact r_iret CF hr hlk hH hS dX8_setFields_76 ⟨by simp [aFld, c7, c17, c31, c42, c68], by simp [c7, c17, c31, c42, c68]⟩
          · exact absurd rfl c68
        · refine lv_iconst (v := 1) hx hb dX8_setFields_45 (by decide) ?_
          refine lv_goto (tgt := 50) hx hb dX8_setFields_46 (by decide) ?_
          refine lv_istore_n (lv' := [(3, .int (1 : Int32)), (0, .ref (G.2.1 20)), (1, .int x), (2, .int y)]) hx hb dX8_setFields_50 rfl hl (by decide) rfl (fun ls hl => ?_)
          refine lv_aload_n hx hb dX8_setFields_51 rfl (lv_at hl 1 rfl) ?_
          refine r_get CF hK hH 20 (Nat.le_of_ble_eq_true rfl) rfl rfl JX8 1 (by decide) K1 rfl dX8_setFields_52 ?_
          refine lv_iload_n hx hb dX8_setFields_55 rfl (lv_at hl 2 rfl) ?_
          refine r_put CF hK hH hS 23 (Nat.le_of_ble_eq_true rfl) rfl rfl JX1 tyX1 tyX1_ok nmX1 1 (by decide) K2 rfl (by decide +kernel) (Nat.le_of_ble_eq_true rfl) rfl dX8_setFields_56 (fun H locs hH hS => ?_)
          refine lv_aload_n hx hb dX8_setFields_59 rfl (lv_at hl 1 rfl) ?_
          refine r_get CF hK hH 20 (Nat.le_of_ble_eq_true rfl) rfl rfl JX8 1 (by decide) K1 rfl dX8_setFields_60 ?_
          refine lv_iload_n hx hb dX8_setFields_63 rfl (lv_at hl 3 rfl) ?_
          refine r_put CF hK hH hS 23 (Nat.le_of_ble_eq_true rfl) rfl rfl JX1 tyX1 tyX1_ok nmX1 2 (by decide) K3 rfl (by decide +kernel) (Nat.le_of_ble_eq_true rfl) rfl dX8_setFields_64 (fun H locs hH hS => ?_)
          refine lv_iload_n hx hb dX8_setFields_67 rfl (lv_at hl 0 rfl) ?_
          refine lv_if_eq (tgt := 75) hx hb dX8_setFields_68 (by decide) (fun c68 => ?_) (fun c68 => ?_)
          · exact absurd c68 (by decide)
          · refine lv_iconst (v := 1) hx hb dX8_setFields_71 (by decide) ?_
            refine lv_goto (tgt := 76) hx hb dX8_setFields_72 (by decide) ?_
            exact r_iret CF hr hlk hH hS dX8_setFields_76 ⟨by simp [aFld, c7, c17, c31, c42, c68], by simp [c7, c17, c31, c42, c68]⟩
    · refine lv_bipush (v := (-4)) hx hb dX8_setFields_20 (by decide) ?_
      exact r_iret CF hr hlk hH hS dX8_setFields_22 ⟨by simp [aFld, c7, c17], by simp [c7, c17]⟩

set_option maxRecDepth 100000 in
set_option maxHeartbeats 4000000 in
theorem c_X8_setCrab (l : Launch) (G : Gm) (σ : Sg) (x : Int32) : Met l yX8_setCrab wsX8_setCrab (rmO 1 22) (PP G [.ref (G.2.1 20), .int x] σ) (QI G (RV (aCrb (σ 23 3) x) (if isW x (-100) 100 then u2 σ 23 3 x else σ))) 0 0 (fr G) := by
  refine r_start (cc := cX8_setCrab) (maxL := 3) (ret := (some .int)) (by decide) rfl (Nat.le_of_ble_eq_true rfl) ?_
  intro pz ez sz mz below meth cz ls CF hr hlk hK hH hS hl
  have CF : CallFix pz mz cz cX8_setCrab 3 sz (List.toArray [.ref (G.2.1 20), .int x]) wsX8_setCrab RX8 := CF
  have hx := CF.1
  have hb := CF.2.1
  have hown := CF.2.2.2.1
  have hts := CF.2.2.2.2
  have hl : lv_has ls 3 [(0, .ref (G.2.1 20)), (1, .int x)] := hl
  have K1 := hts _ (List.mem_of_getElem? (i := 1) rfl)
  have K2 := hts _ (List.mem_of_getElem? (i := 2) rfl)
  have JX1 : ∀ w ∈ wsX10, w ∈ wsX8_setCrab := in_r _ [14, 15, 16, 17] (by decide +kernel)
  have JX8 : ∀ w ∈ wsX80, w ∈ wsX8_setCrab := in_r _ [7, 8, 9, 10, 11, 12, 13] (by decide +kernel)
  refine lv_iload_n hx hb dX8_setCrab_0 rfl (lv_at hl 1 rfl) ?_
  refine lv_bipush (v := (-100)) hx hb dX8_setCrab_1 (by decide) ?_
  refine lv_bipush (v := 100) hx hb dX8_setCrab_3 (by decide) ?_
  refine r_cR hS (r_runS (n := 3) (As := [.int x, .int (-100 : Int32), .int (100 : Int32)]) (rest := []) CF hK hH (c_X8_isWithin l G σ x (-100 : Int32) (100 : Int32)) gX8_setCrab_X8_isWithin rfl rfl rfl (by decide +kernel) ⟨⟨Nat.le_of_ble_eq_true rfl, Nat.le_of_ble_eq_true rfl⟩, Nat.le_of_ble_eq_true rfl, Nat.le_of_ble_eq_true rfl⟩ rfl hl.1 rfl (Nat.le_of_ble_eq_true rfl) dX8_setCrab_5) (fun H locs hH hS => ?_)
  refine r_ifneB (tgt := 14) hx hb dX8_setCrab_8 (by decide) (fun c8 => ?_) (fun c8 => ?_)
  · refine lv_aload_n hx hb dX8_setCrab_14 rfl (lv_at hl 0 rfl) ?_
    refine r_get CF hK hH 20 (Nat.le_of_ble_eq_true rfl) rfl rfl JX8 1 (by decide) K1 rfl dX8_setCrab_15 ?_
    refine r_get CF hK hH 23 (Nat.le_of_ble_eq_true rfl) rfl rfl JX1 3 (by decide) K2 rfl dX8_setCrab_18 ?_
    refine lv_iload_n hx hb dX8_setCrab_21 rfl (lv_at hl 1 rfl) ?_
    refine lv_icmp_eq (tgt := 29) hx hb dX8_setCrab_22 (by decide) (fun c22 => ?_) (fun c22 => ?_)
    · refine lv_iconst (v := 0) hx hb dX8_setCrab_29 (by decide) ?_
      refine lv_istore_n (lv' := [(2, .int (0 : Int32)), (0, .ref (G.2.1 20)), (1, .int x)]) hx hb dX8_setCrab_30 rfl hl (by decide) rfl (fun ls hl => ?_)
      refine lv_aload_n hx hb dX8_setCrab_31 rfl (lv_at hl 1 rfl) ?_
      refine r_get CF hK hH 20 (Nat.le_of_ble_eq_true rfl) rfl rfl JX8 1 (by decide) K1 rfl dX8_setCrab_32 ?_
      refine lv_iload_n hx hb dX8_setCrab_35 rfl (lv_at hl 2 rfl) ?_
      refine r_put CF hK hH hS 23 (Nat.le_of_ble_eq_true rfl) rfl rfl JX1 tyX1 tyX1_ok nmX1 3 (by decide) K2 rfl (by decide +kernel) (Nat.le_of_ble_eq_true rfl) rfl dX8_setCrab_36 (fun H locs hH hS => ?_)
      refine lv_iload_n hx hb dX8_setCrab_39 rfl (lv_at hl 0 rfl) ?_
      refine lv_if_eq (tgt := 47) hx hb dX8_setCrab_40 (by decide) (fun c40 => ?_) (fun c40 => ?_)
      · refine lv_iconst (v := 0) hx hb dX8_setCrab_47 (by decide) ?_
        exact r_iret CF hr hlk hH hS dX8_setCrab_48 ⟨by simp [aCrb, c8, c22, c40], by simp [c8, c22, c40]⟩
      · exact absurd rfl c40
    · refine lv_iconst (v := 1) hx hb dX8_setCrab_25 (by decide) ?_
      refine lv_goto (tgt := 30) hx hb dX8_setCrab_26 (by decide) ?_
      refine lv_istore_n (lv' := [(2, .int (1 : Int32)), (0, .ref (G.2.1 20)), (1, .int x)]) hx hb dX8_setCrab_30 rfl hl (by decide) rfl (fun ls hl => ?_)
      refine lv_aload_n hx hb dX8_setCrab_31 rfl (lv_at hl 1 rfl) ?_
      refine r_get CF hK hH 20 (Nat.le_of_ble_eq_true rfl) rfl rfl JX8 1 (by decide) K1 rfl dX8_setCrab_32 ?_
      refine lv_iload_n hx hb dX8_setCrab_35 rfl (lv_at hl 2 rfl) ?_
      refine r_put CF hK hH hS 23 (Nat.le_of_ble_eq_true rfl) rfl rfl JX1 tyX1 tyX1_ok nmX1 3 (by decide) K2 rfl (by decide +kernel) (Nat.le_of_ble_eq_true rfl) rfl dX8_setCrab_36 (fun H locs hH hS => ?_)
      refine lv_iload_n hx hb dX8_setCrab_39 rfl (lv_at hl 0 rfl) ?_
      refine lv_if_eq (tgt := 47) hx hb dX8_setCrab_40 (by decide) (fun c40 => ?_) (fun c40 => ?_)
      · exact absurd c40 (by decide)
      · refine lv_iconst (v := 1) hx hb dX8_setCrab_43 (by decide) ?_
        refine lv_goto (tgt := 48) hx hb dX8_setCrab_44 (by decide) ?_
        exact r_iret CF hr hlk hH hS dX8_setCrab_48 ⟨by simp [aCrb, c8, c22, c40], by simp [c8, c22, c40]⟩
  · refine lv_bipush (v := (-4)) hx hb dX8_setCrab_11 (by decide) ?_
    exact r_iret CF hr hlk hH hS dX8_setCrab_13 ⟨by simp [aCrb, c8], by simp [c8]⟩

set_option maxRecDepth 100000 in
set_option maxHeartbeats 4000000 in
theorem c_X8_setSpeed (l : Launch) (G : Gm) (σ : Sg) (x y z : Int32) : Met l yX8_setSpeed wsX8_setSpeed (rmO 1 22) (PP G [.ref (G.2.1 20), .int x, .int y, .int z] σ) (QI G (RV (aSpd (σ 24 0) (σ 24 1) (σ 24 2) x y z) (if isW x 50 300 && (isW y (-40) 40 && isW z 0 500) then u2 (u2 (u2 σ 24 0 x) 24 1 y) 24 2 z else σ))) 0 0 (fr G) := by
  refine r_start (cc := cX8_setSpeed) (maxL := 5) (ret := (some .int)) (by decide) rfl (Nat.le_of_ble_eq_true rfl) ?_
  intro pz ez sz mz below meth cz ls CF hr hlk hK hH hS hl
  have CF : CallFix pz mz cz cX8_setSpeed 5 sz (List.toArray [.ref (G.2.1 20), .int x, .int y, .int z]) wsX8_setSpeed RX8 := CF
  have hx := CF.1
  have hb := CF.2.1
  have hown := CF.2.2.2.1
  have hts := CF.2.2.2.2
  have hl : lv_has ls 5 [(0, .ref (G.2.1 20)), (1, .int x), (2, .int y), (3, .int z)] := hl
  have K1 := hts _ (List.mem_of_getElem? (i := 1) rfl)
  have K2 := hts _ (List.mem_of_getElem? (i := 2) rfl)
  have K3 := hts _ (List.mem_of_getElem? (i := 3) rfl)
  have K4 := hts _ (List.mem_of_getElem? (i := 4) rfl)
  have JX0 : ∀ w ∈ wsX00, w ∈ wsX8_setSpeed := in_r _ [16, 17, 18] (by decide +kernel)
  have JX8 : ∀ w ∈ wsX80, w ∈ wsX8_setSpeed := in_r _ [9, 10, 11, 12, 13, 14, 15] (by decide +kernel)
  refine lv_iload_n hx hb dX8_setSpeed_0 rfl (lv_at hl 1 rfl) ?_
  refine lv_bipush (v := 50) hx hb dX8_setSpeed_1 (by decide) ?_
  refine lv_sipush (v := 300) hx hb dX8_setSpeed_3 (by decide) ?_
  refine r_cR hS (r_runS (n := 3) (As := [.int x, .int (50 : Int32), .int (300 : Int32)]) (rest := []) CF hK hH (c_X8_isWithin l G σ x (50 : Int32) (300 : Int32)) gX8_setSpeed_X8_isWithin rfl rfl rfl (by decide +kernel) ⟨⟨Nat.le_of_ble_eq_true rfl, Nat.le_of_ble_eq_true rfl⟩, Nat.le_of_ble_eq_true rfl, Nat.le_of_ble_eq_true rfl⟩ rfl hl.1 rfl (Nat.le_of_ble_eq_true rfl) dX8_setSpeed_6) (fun H locs hH hS => ?_)
  refine r_ifeqB (tgt := 34) hx hb dX8_setSpeed_9 (by decide) (fun c9 => ?_) (fun c9 => ?_)
  · refine lv_bipush (v := (-4)) hx hb dX8_setSpeed_34 (by decide) ?_
    exact r_iret CF hr hlk hH hS dX8_setSpeed_36 ⟨by simp [aSpd, c9], by simp [c9]⟩
  · refine lv_iload_n hx hb dX8_setSpeed_12 rfl (lv_at hl 2 rfl) ?_
    refine lv_bipush (v := (-40)) hx hb dX8_setSpeed_13 (by decide) ?_
    refine lv_bipush (v := 40) hx hb dX8_setSpeed_15 (by decide) ?_
    refine r_cR hS (r_runS (n := 3) (As := [.int y, .int (-40 : Int32), .int (40 : Int32)]) (rest := []) CF hK hH (c_X8_isWithin l G σ y (-40 : Int32) (40 : Int32)) gX8_setSpeed_X8_isWithin rfl rfl rfl (by decide +kernel) ⟨⟨Nat.le_of_ble_eq_true rfl, Nat.le_of_ble_eq_true rfl⟩, Nat.le_of_ble_eq_true rfl, Nat.le_of_ble_eq_true rfl⟩ rfl hl.1 rfl (Nat.le_of_ble_eq_true rfl) dX8_setSpeed_17) (fun H locs hH hS => ?_)
    refine r_ifeqB (tgt := 34) hx hb dX8_setSpeed_20 (by decide) (fun c20 => ?_) (fun c20 => ?_)
    · refine lv_bipush (v := (-4)) hx hb dX8_setSpeed_34 (by decide) ?_
      exact r_iret CF hr hlk hH hS dX8_setSpeed_36 ⟨by simp [aSpd, c9, c20], by simp [c9, c20]⟩
    · refine lv_iload_n hx hb dX8_setSpeed_23 rfl (lv_at hl 3 rfl) ?_
      refine lv_iconst (v := 0) hx hb dX8_setSpeed_24 (by decide) ?_
      refine lv_sipush (v := 500) hx hb dX8_setSpeed_25 (by decide) ?_
      refine r_cR hS (r_runS (n := 3) (As := [.int z, .int (0 : Int32), .int (500 : Int32)]) (rest := []) CF hK hH (c_X8_isWithin l G σ z (0 : Int32) (500 : Int32)) gX8_setSpeed_X8_isWithin rfl rfl rfl (by decide +kernel) ⟨⟨Nat.le_of_ble_eq_true rfl, Nat.le_of_ble_eq_true rfl⟩, Nat.le_of_ble_eq_true rfl, Nat.le_of_ble_eq_true rfl⟩ rfl hl.1 rfl (Nat.le_of_ble_eq_true rfl) dX8_setSpeed_28) (fun H locs hH hS => ?_)
      refine r_ifneB (tgt := 37) hx hb dX8_setSpeed_31 (by decide) (fun c31 => ?_) (fun c31 => ?_)
      · refine lv_aload_n hx hb dX8_setSpeed_37 rfl (lv_at hl 0 rfl) ?_
        refine r_get CF hK hH 20 (Nat.le_of_ble_eq_true rfl) rfl rfl JX8 2 (by decide) K1 rfl dX8_setSpeed_38 ?_
        refine r_get CF hK hH 24 (Nat.le_of_ble_eq_true rfl) rfl rfl JX0 0 (by decide) K2 rfl dX8_setSpeed_41 ?_
        refine lv_iload_n hx hb dX8_setSpeed_44 rfl (lv_at hl 1 rfl) ?_
        refine lv_icmp_ne (tgt := 70) hx hb dX8_setSpeed_45 (by decide) (fun c45 => ?_) (fun c45 => ?_)
        · refine lv_iconst (v := 1) hx hb dX8_setSpeed_70 (by decide) ?_
          refine lv_goto (tgt := 75) hx hb dX8_setSpeed_71 (by decide) ?_
          refine lv_istore (lv' := [(4, .int (1 : Int32)), (0, .ref (G.2.1 20)), (1, .int x), (2, .int y), (3, .int z)]) hx hb dX8_setSpeed_75 hl (by decide) rfl (fun ls hl => ?_)
          refine lv_aload_n hx hb dX8_setSpeed_77 rfl (lv_at hl 1 rfl) ?_
          refine r_get CF hK hH 20 (Nat.le_of_ble_eq_true rfl) rfl rfl JX8 2 (by decide) K1 rfl dX8_setSpeed_78 ?_
          refine lv_iload_n hx hb dX8_setSpeed_81 rfl (lv_at hl 2 rfl) ?_
          refine r_put CF hK hH hS 24 (Nat.le_of_ble_eq_true rfl) rfl rfl JX0 tyX0 tyX0_ok nmX0 0 (by decide) K2 rfl (by decide +kernel) (Nat.le_of_ble_eq_true rfl) rfl dX8_setSpeed_82 (fun H locs hH hS => ?_)
          refine lv_aload_n hx hb dX8_setSpeed_85 rfl (lv_at hl 1 rfl) ?_
          refine r_get CF hK hH 20 (Nat.le_of_ble_eq_true rfl) rfl rfl JX8 2 (by decide) K1 rfl dX8_setSpeed_86 ?_
          refine lv_iload_n hx hb dX8_setSpeed_89 rfl (lv_at hl 3 rfl) ?_
          refine r_put CF hK hH hS 24 (Nat.le_of_ble_eq_true rfl) rfl rfl JX0 tyX0 tyX0_ok nmX0 1 (by decide) K3 rfl (by decide +kernel) (Nat.le_of_ble_eq_true rfl) rfl dX8_setSpeed_90 (fun H locs hH hS => ?_)
          refine lv_aload_n hx hb dX8_setSpeed_93 rfl (lv_at hl 1 rfl) ?_
          refine r_get CF hK hH 20 (Nat.le_of_ble_eq_true rfl) rfl rfl JX8 2 (by decide) K1 rfl dX8_setSpeed_94 ?_
          refine lv_iload_n hx hb dX8_setSpeed_97 rfl (lv_at hl 4 rfl) ?_
          refine r_put CF hK hH hS 24 (Nat.le_of_ble_eq_true rfl) rfl rfl JX0 tyX0 tyX0_ok nmX0 2 (by decide) K4 rfl (by decide +kernel) (Nat.le_of_ble_eq_true rfl) rfl dX8_setSpeed_98 (fun H locs hH hS => ?_)
          refine lv_iload hx hb dX8_setSpeed_101 (lv_at hl 0 rfl) ?_
          refine lv_if_eq (tgt := 110) hx hb dX8_setSpeed_103 (by decide) (fun c103 => ?_) (fun c103 => ?_)
          · exact absurd c103 (by decide)
          · refine lv_iconst (v := 1) hx hb dX8_setSpeed_106 (by decide) ?_
            refine lv_goto (tgt := 111) hx hb dX8_setSpeed_107 (by decide) ?_
            exact r_iret CF hr hlk hH hS dX8_setSpeed_111 ⟨by simp [aSpd, c9, c20, c31, c45, c103], by simp [c9, c20, c31, c45, c103]⟩
        · refine lv_aload_n hx hb dX8_setSpeed_48 rfl (lv_at hl 0 rfl) ?_
          refine r_get CF hK hH 20 (Nat.le_of_ble_eq_true rfl) rfl rfl JX8 2 (by decide) K1 rfl dX8_setSpeed_49 ?_
          refine r_get CF hK hH 24 (Nat.le_of_ble_eq_true rfl) rfl rfl JX0 1 (by decide) K3 rfl dX8_setSpeed_52 ?_
          refine lv_iload_n hx hb dX8_setSpeed_55 rfl (lv_at hl 2 rfl) ?_
          refine lv_icmp_ne (tgt := 70) hx hb dX8_setSpeed_56 (by decide) (fun c56 => ?_) (fun c56 => ?_)
          · refine lv_iconst (v := 1) hx hb dX8_setSpeed_70 (by decide) ?_
            refine lv_goto (tgt := 75) hx hb dX8_setSpeed_71 (by decide) ?_
            refine lv_istore (lv' := [(4, .int (1 : Int32)), (0, .ref (G.2.1 20)), (1, .int x), (2, .int y), (3, .int z)]) hx hb dX8_setSpeed_75 hl (by decide) rfl (fun ls hl => ?_)
            refine lv_aload_n hx hb dX8_setSpeed_77 rfl (lv_at hl 1 rfl) ?_
            refine r_get CF hK hH 20 (Nat.le_of_ble_eq_true rfl) rfl rfl JX8 2 (by decide) K1 rfl dX8_setSpeed_78 ?_
            refine lv_iload_n hx hb dX8_setSpeed_81 rfl (lv_at hl 2 rfl) ?_
            refine r_put CF hK hH hS 24 (Nat.le_of_ble_eq_true rfl) rfl rfl JX0 tyX0 tyX0_ok nmX0 0 (by decide) K2 rfl (by decide +kernel) (Nat.le_of_ble_eq_true rfl) rfl dX8_setSpeed_82 (fun H locs hH hS => ?_)
            refine lv_aload_n hx hb dX8_setSpeed_85 rfl (lv_at hl 1 rfl) ?_
            refine r_get CF hK hH 20 (Nat.le_of_ble_eq_true rfl) rfl rfl JX8 2 (by decide) K1 rfl dX8_setSpeed_86 ?_
            refine lv_iload_n hx hb dX8_setSpeed_89 rfl (lv_at hl 3 rfl) ?_
            refine r_put CF hK hH hS 24 (Nat.le_of_ble_eq_true rfl) rfl rfl JX0 tyX0 tyX0_ok nmX0 1 (by decide) K3 rfl (by decide +kernel) (Nat.le_of_ble_eq_true rfl) rfl dX8_setSpeed_90 (fun H locs hH hS => ?_)
            refine lv_aload_n hx hb dX8_setSpeed_93 rfl (lv_at hl 1 rfl) ?_
            refine r_get CF hK hH 20 (Nat.le_of_ble_eq_true rfl) rfl rfl JX8 2 (by decide) K1 rfl dX8_setSpeed_94 ?_
            refine lv_iload_n hx hb dX8_setSpeed_97 rfl (lv_at hl 4 rfl) ?_
            refine r_put CF hK hH hS 24 (Nat.le_of_ble_eq_true rfl) rfl rfl JX0 tyX0 tyX0_ok nmX0 2 (by decide) K4 rfl (by decide +kernel) (Nat.le_of_ble_eq_true rfl) rfl dX8_setSpeed_98 (fun H locs hH hS => ?_)
            refine lv_iload hx hb dX8_setSpeed_101 (lv_at hl 0 rfl) ?_
            refine lv_if_eq (tgt := 110) hx hb dX8_setSpeed_103 (by decide) (fun c103 => ?_) (fun c103 => ?_)
            · exact absurd c103 (by decide)
            · refine lv_iconst (v := 1) hx hb dX8_setSpeed_106 (by decide) ?_
              refine lv_goto (tgt := 111) hx hb dX8_setSpeed_107 (by decide) ?_
              exact r_iret CF hr hlk hH hS dX8_setSpeed_111 ⟨by simp [aSpd, c9, c20, c31, c45, c56, c103], by simp [c9, c20, c31, c45, c56, c103]⟩
          · refine lv_aload_n hx hb dX8_setSpeed_59 rfl (lv_at hl 0 rfl) ?_
            refine r_get CF hK hH 20 (Nat.le_of_ble_eq_true rfl) rfl rfl JX8 2 (by decide) K1 rfl dX8_setSpeed_60 ?_
            refine r_get CF hK hH 24 (Nat.le_of_ble_eq_true rfl) rfl rfl JX0 2 (by decide) K4 rfl dX8_setSpeed_63 ?_
            refine lv_iload_n hx hb dX8_setSpeed_66 rfl (lv_at hl 3 rfl) ?_
            refine lv_icmp_eq (tgt := 74) hx hb dX8_setSpeed_67 (by decide) (fun c67 => ?_) (fun c67 => ?_)
            · refine lv_iconst (v := 0) hx hb dX8_setSpeed_74 (by decide) ?_
              refine lv_istore (lv' := [(4, .int (0 : Int32)), (0, .ref (G.2.1 20)), (1, .int x), (2, .int y), (3, .int z)]) hx hb dX8_setSpeed_75 hl (by decide) rfl (fun ls hl => ?_)
              refine lv_aload_n hx hb dX8_setSpeed_77 rfl (lv_at hl 1 rfl) ?_
              refine r_get CF hK hH 20 (Nat.le_of_ble_eq_true rfl) rfl rfl JX8 2 (by decide) K1 rfl dX8_setSpeed_78 ?_
              refine lv_iload_n hx hb dX8_setSpeed_81 rfl (lv_at hl 2 rfl) ?_
              refine r_put CF hK hH hS 24 (Nat.le_of_ble_eq_true rfl) rfl rfl JX0 tyX0 tyX0_ok nmX0 0 (by decide) K2 rfl (by decide +kernel) (Nat.le_of_ble_eq_true rfl) rfl dX8_setSpeed_82 (fun H locs hH hS => ?_)
              refine lv_aload_n hx hb dX8_setSpeed_85 rfl (lv_at hl 1 rfl) ?_
              refine r_get CF hK hH 20 (Nat.le_of_ble_eq_true rfl) rfl rfl JX8 2 (by decide) K1 rfl dX8_setSpeed_86 ?_
              refine lv_iload_n hx hb dX8_setSpeed_89 rfl (lv_at hl 3 rfl) ?_
              refine r_put CF hK hH hS 24 (Nat.le_of_ble_eq_true rfl) rfl rfl JX0 tyX0 tyX0_ok nmX0 1 (by decide) K3 rfl (by decide +kernel) (Nat.le_of_ble_eq_true rfl) rfl dX8_setSpeed_90 (fun H locs hH hS => ?_)
              refine lv_aload_n hx hb dX8_setSpeed_93 rfl (lv_at hl 1 rfl) ?_
              refine r_get CF hK hH 20 (Nat.le_of_ble_eq_true rfl) rfl rfl JX8 2 (by decide) K1 rfl dX8_setSpeed_94 ?_
              refine lv_iload_n hx hb dX8_setSpeed_97 rfl (lv_at hl 4 rfl) ?_
              refine r_put CF hK hH hS 24 (Nat.le_of_ble_eq_true rfl) rfl rfl JX0 tyX0 tyX0_ok nmX0 2 (by decide) K4 rfl (by decide +kernel) (Nat.le_of_ble_eq_true rfl) rfl dX8_setSpeed_98 (fun H locs hH hS => ?_)
              refine lv_iload hx hb dX8_setSpeed_101 (lv_at hl 0 rfl) ?_
              refine lv_if_eq (tgt := 110) hx hb dX8_setSpeed_103 (by decide) (fun c103 => ?_) (fun c103 => ?_)
              · refine lv_iconst (v := 0) hx hb dX8_setSpeed_110 (by decide) ?_
                exact r_iret CF hr hlk hH hS dX8_setSpeed_111 ⟨by simp [aSpd, c9, c20, c31, c45, c56, c67, c103], by simp [c9, c20, c31, c45, c56, c67, c103]⟩
              · exact absurd rfl c103
            · refine lv_iconst (v := 1) hx hb dX8_setSpeed_70 (by decide) ?_
              refine lv_goto (tgt := 75) hx hb dX8_setSpeed_71 (by decide) ?_
              refine lv_istore (lv' := [(4, .int (1 : Int32)), (0, .ref (G.2.1 20)), (1, .int x), (2, .int y), (3, .int z)]) hx hb dX8_setSpeed_75 hl (by decide) rfl (fun ls hl => ?_)
              refine lv_aload_n hx hb dX8_setSpeed_77 rfl (lv_at hl 1 rfl) ?_
              refine r_get CF hK hH 20 (Nat.le_of_ble_eq_true rfl) rfl rfl JX8 2 (by decide) K1 rfl dX8_setSpeed_78 ?_
              refine lv_iload_n hx hb dX8_setSpeed_81 rfl (lv_at hl 2 rfl) ?_
              refine r_put CF hK hH hS 24 (Nat.le_of_ble_eq_true rfl) rfl rfl JX0 tyX0 tyX0_ok nmX0 0 (by decide) K2 rfl (by decide +kernel) (Nat.le_of_ble_eq_true rfl) rfl dX8_setSpeed_82 (fun H locs hH hS => ?_)
              refine lv_aload_n hx hb dX8_setSpeed_85 rfl (lv_at hl 1 rfl) ?_
              refine r_get CF hK hH 20 (Nat.le_of_ble_eq_true rfl) rfl rfl JX8 2 (by decide) K1 rfl dX8_setSpeed_86 ?_
              refine lv_iload_n hx hb dX8_setSpeed_89 rfl (lv_at hl 3 rfl) ?_
              refine r_put CF hK hH hS 24 (Nat.le_of_ble_eq_true rfl) rfl rfl JX0 tyX0 tyX0_ok nmX0 1 (by decide) K3 rfl (by decide +kernel) (Nat.le_of_ble_eq_true rfl) rfl dX8_setSpeed_90 (fun H locs hH hS => ?_)
              refine lv_aload_n hx hb dX8_setSpeed_93 rfl (lv_at hl 1 rfl) ?_
              refine r_get CF hK hH 20 (Nat.le_of_ble_eq_true rfl) rfl rfl JX8 2 (by decide) K1 rfl dX8_setSpeed_94 ?_
              refine lv_iload_n hx hb dX8_setSpeed_97 rfl (lv_at hl 4 rfl) ?_
              refine r_put CF hK hH hS 24 (Nat.le_of_ble_eq_true rfl) rfl rfl JX0 tyX0 tyX0_ok nmX0 2 (by decide) K4 rfl (by decide +kernel) (Nat.le_of_ble_eq_true rfl) rfl dX8_setSpeed_98 (fun H locs hH hS => ?_)
              refine lv_iload hx hb dX8_setSpeed_101 (lv_at hl 0 rfl) ?_
              refine lv_if_eq (tgt := 110) hx hb dX8_setSpeed_103 (by decide) (fun c103 => ?_) (fun c103 => ?_)
              · exact absurd c103 (by decide)
              · refine lv_iconst (v := 1) hx hb dX8_setSpeed_106 (by decide) ?_
                refine lv_goto (tgt := 111) hx hb dX8_setSpeed_107 (by decide) ?_
                exact r_iret CF hr hlk hH hS dX8_setSpeed_111 ⟨by simp [aSpd, c9, c20, c31, c45, c56, c67, c103], by simp [c9, c20, c31, c45, c56, c67, c103]⟩
      · refine lv_bipush (v := (-4)) hx hb dX8_setSpeed_34 (by decide) ?_
        exact r_iret CF hr hlk hH hS dX8_setSpeed_36 ⟨by simp [aSpd, c9, c20, c31], by simp [c9, c20, c31]⟩
end
section
set_option maxRecDepth 100000 in
set_option maxHeartbeats 4000000 in
theorem c_X8_addStrip (l : Launch) (G : Gm) (σ : Sg) (R C n : Nat) (sq : Nat → S4) (hA : CA σ R C n sq) (x f h w : Int32) : Met l yX8_addStrip wsX8_addStrip (rmO 2 48) (PP G [.ref (G.2.1 20), .int x, .int f, .int h, .int w] σ) (QI G (fun r σ' => r = aAdd R C n x f h w ∧ σ' = (if 0 ≤ aAdd R C n x f h w then addF σ 0 n x f h w else σ))) 0 0 (fr G) := by
  refine r_start (cc := cX8_addStrip) (maxL := 5) (ret := (some .int)) (by decide) rfl (Nat.le_of_ble_eq_true rfl) ?_
  intro pz ez sz mz below meth cz ls CF hr hlk hK hH hS hl
  have CF : CallFix pz mz cz cX8_addStrip 5 sz (List.toArray [.ref (G.2.1 20), .int x, .int f, .int h, .int w]) wsX8_addStrip RX8 := CF
  have hx := CF.1
  have hb := CF.2.1
  have hown := CF.2.2.2.1
  have hts := CF.2.2.2.2
  have hl : lv_has ls 5 [(0, .ref (G.2.1 20)), (1, .int x), (2, .int f), (3, .int h), (4, .int w)] := hl
  have K1 := hts _ (List.mem_of_getElem? (i := 1) rfl)
  have K2 := hts _ (List.mem_of_getElem? (i := 2) rfl)
  have JX8 : ∀ w ∈ wsX80, w ∈ wsX8_addStrip := in_r _ [30, 31, 32, 33, 34, 35, 36] (by decide +kernel)
  obtain ⟨hR, hC, hR3, hR10, hC4, hC16, hh, hL⟩ := hA
  have hn : σ (16 + 0) 0 = nI n := hL.1
  have hn8 := hL.2.1
  refine lv_aload_n hx hb dX8_addStrip_0 rfl (lv_at hl 0 rfl) ?_
  refine r_get CF hK hH 20 (Nat.le_of_ble_eq_true rfl) rfl rfl JX8 0 (by decide) K1 rfl dX8_addStrip_1 ?_
  refine lv_iload_n hx hb dX8_addStrip_4 rfl (lv_at hl 1 rfl) ?_
  refine lv_iload_n hx hb dX8_addStrip_5 rfl (lv_at hl 2 rfl) ?_
  refine r_cR hS (r_runV (n := 2) (As := [.int x, .int f]) (rest := []) CF hK hH (c_X7_contains l G σ x f) gX8_addStrip_X7_contains rfl rfl rfl rfl (by decide +kernel) ⟨⟨Nat.le_of_ble_eq_true rfl, Nat.le_of_ble_eq_true rfl⟩, Nat.le_of_ble_eq_true rfl, Nat.le_of_ble_eq_true rfl⟩ 21 rfl (Nat.le_of_ble_eq_true rfl) rfl rfl rfl hl.1 rfl (Nat.le_of_ble_eq_true rfl) dX8_addStrip_6) (fun H locs hH hS => ?_)
  refine r_top (show (b2i (isC σ x f) : Int32) = b2i (inB x R && inB f C) from (by rw [isC_eq hR hC])) ?_
  refine r_ifeqB (tgt := 24) hx hb dX8_addStrip_9 (by decide) (fun c9 => ?_) (fun c9 => ?_)
  · refine lv_iconst (v := (-1)) hx hb dX8_addStrip_24 (by decide) ?_
    exact r_iret CF hr hlk hH hS dX8_addStrip_25 (by have e : aAdd R C n x f h w = -1 := (by simp [aAdd, c9]); rw [e]; exact ⟨rfl, rfl⟩)
  · refine lv_aload_n hx hb dX8_addStrip_12 rfl (lv_at hl 0 rfl) ?_
    refine r_get CF hK hH 20 (Nat.le_of_ble_eq_true rfl) rfl rfl JX8 0 (by decide) K1 rfl dX8_addStrip_13 ?_
    refine lv_iload_n hx hb dX8_addStrip_16 rfl (lv_at hl 1 rfl) ?_
    refine lv_iload_n hx hb dX8_addStrip_17 rfl (lv_at hl 3 rfl) ?_
    refine r_cR hS (r_runV (n := 2) (As := [.int x, .int h]) (rest := []) CF hK hH (c_X7_contains l G σ x h) gX8_addStrip_X7_contains rfl rfl rfl rfl (by decide +kernel) ⟨⟨Nat.le_of_ble_eq_true rfl, Nat.le_of_ble_eq_true rfl⟩, Nat.le_of_ble_eq_true rfl, Nat.le_of_ble_eq_true rfl⟩ 21 rfl (Nat.le_of_ble_eq_true rfl) rfl rfl rfl hl.1 rfl (Nat.le_of_ble_eq_true rfl) dX8_addStrip_18) (fun H locs hH hS => ?_)
    refine r_top (show (b2i (isC σ x h) : Int32) = b2i (inB x R && inB h C) from (by rw [isC_eq hR hC])) ?_
    refine r_ifneB (tgt := 26) hx hb dX8_addStrip_21 (by decide) (fun c21 => ?_) (fun c21 => ?_)
    · refine lv_iload_n hx hb dX8_addStrip_26 rfl (lv_at hl 3 rfl) ?_
      refine lv_iload_n hx hb dX8_addStrip_27 rfl (lv_at hl 2 rfl) ?_
      refine lv_icmp_lt (tgt := 42) hx hb dX8_addStrip_28 (by decide) (fun c28 => ?_) (fun c28 => ?_)
      · refine lv_bipush (v := (-4)) hx hb dX8_addStrip_42 (by decide) ?_
        exact r_iret CF hr hlk hH hS dX8_addStrip_44 (by have e : aAdd R C n x f h w = -4 := (by simp [aAdd, c9, c21, c28]); rw [e]; exact ⟨rfl, rfl⟩)
      · refine lv_iload hx hb dX8_addStrip_31 (lv_at hl 4 rfl) ?_
        refine lv_iconst (v := 1) hx hb dX8_addStrip_33 (by decide) ?_
        refine lv_bipush (v := 16) hx hb dX8_addStrip_34 (by decide) ?_
        refine r_cR hS (r_runS (n := 3) (As := [.int w, .int (1 : Int32), .int (16 : Int32)]) (rest := []) CF hK hH (c_X8_isWithin l G σ w (1 : Int32) (16 : Int32)) gX8_addStrip_X8_isWithin rfl rfl rfl (by decide +kernel) ⟨⟨Nat.le_of_ble_eq_true rfl, Nat.le_of_ble_eq_true rfl⟩, Nat.le_of_ble_eq_true rfl, Nat.le_of_ble_eq_true rfl⟩ rfl hl.1 rfl (Nat.le_of_ble_eq_true rfl) dX8_addStrip_36) (fun H locs hH hS => ?_)
        refine r_ifneB (tgt := 45) hx hb dX8_addStrip_39 (by decide) (fun c39 => ?_) (fun c39 => ?_)
        · refine lv_aload_n hx hb dX8_addStrip_45 rfl (lv_at hl 0 rfl) ?_
          refine r_get CF hK hH 20 (Nat.le_of_ble_eq_true rfl) rfl rfl JX8 3 (by decide) K2 rfl dX8_addStrip_46 ?_
          refine lv_iload_n hx hb dX8_addStrip_49 rfl (lv_at hl 1 rfl) ?_
          refine lv_iload_n hx hb dX8_addStrip_50 rfl (lv_at hl 2 rfl) ?_
          refine lv_iload_n hx hb dX8_addStrip_51 rfl (lv_at hl 3 rfl) ?_
          refine lv_iload hx hb dX8_addStrip_52 (lv_at hl 4 rfl) ?_
          refine r_calli hS (r_runV (n := 4) (As := [.int x, .int f, .int h, .int w]) (rest := []) CF hK hH (c_X6_add l G σ 0 (by decide) n hn hn8 x f h w) gX8_addStrip_X6_add rfl rfl rfl rfl (by decide +kernel) ⟨⟨Nat.le_of_ble_eq_true rfl, Nat.le_of_ble_eq_true rfl⟩, Nat.le_of_ble_eq_true rfl, Nat.le_of_ble_eq_true rfl⟩ (16 + 0) rfl (by omega) (we_l G (by decide) _) rfl rfl hl.1 rfl (Nat.le_of_ble_eq_true rfl) dX8_addStrip_54) (fun r54 σ54 H locs hq hH hS => ?_)
          by_cases h8 : n = 8
          · rw [if_pos h8] at hq
            obtain ⟨hr1, hσ1⟩ := hq
            rw [hσ1] at hH
            exact r_iret CF hr hlk hH hS dX8_addStrip_57 (by have e : aAdd R C n x f h w = -5 := (by simp [aAdd, c9, c21, c28, c39, h8]); rw [e]; exact ⟨hr1, rfl⟩)
          · rw [if_neg h8] at hq
            obtain ⟨hr1, hσ1⟩ := hq
            rw [hσ1] at hH
            exact r_iret CF hr hlk hH hS dX8_addStrip_57 (by have e : aAdd R C n x f h w = nI n := (by simp [aAdd, c9, c21, c28, c39, h8]); rw [e, if_pos (nI_pos' (by omega))]; exact ⟨hr1, rfl⟩)
        · refine lv_bipush (v := (-4)) hx hb dX8_addStrip_42 (by decide) ?_
          exact r_iret CF hr hlk hH hS dX8_addStrip_44 (by have e : aAdd R C n x f h w = -4 := (by simp [aAdd, c9, c21, c28, c39]); rw [e]; exact ⟨rfl, rfl⟩)
    · refine lv_iconst (v := (-1)) hx hb dX8_addStrip_24 (by decide) ?_
      exact r_iret CF hr hlk hH hS dX8_addStrip_25 (by have e : aAdd R C n x f h w = -1 := (by simp [aAdd, c9, c21]); rw [e]; exact ⟨rfl, rfl⟩)

set_option maxRecDepth 100000 in
set_option maxHeartbeats 4000000 in
theorem c_X8_removeStrip (l : Launch) (G : Gm) (σ : Sg) (R C n : Nat) (sq : Nat → S4) (hA : CA σ R C n sq) (x : Int32) : Met l yX8_removeStrip wsX8_removeStrip (rmO 2 47) (PP G [.ref (G.2.1 20), .int x] σ) (QI G (RV (aRem n x) (if inB x n then u2 (rmS σ 0 (NN x) (n - 1)) 16 0 (nI (n - 1)) else σ))) 0 0 (fr G) := by
  refine r_start (cc := cX8_removeStrip) (maxL := 2) (ret := (some .int)) (by decide) rfl (Nat.le_of_ble_eq_true rfl) ?_
  intro pz ez sz mz below meth cz ls CF hr hlk hK hH hS hl
  have CF : CallFix pz mz cz cX8_removeStrip 2 sz (List.toArray [.ref (G.2.1 20), .int x]) wsX8_removeStrip RX8 := CF
  have hx := CF.1
  have hb := CF.2.1
  have hown := CF.2.2.2.1
  have hts := CF.2.2.2.2
  have hl : lv_has ls 2 [(0, .ref (G.2.1 20)), (1, .int x)] := hl
  have K1 := hts _ (List.mem_of_getElem? (i := 1) rfl)
  have K2 := hts _ (List.mem_of_getElem? (i := 2) rfl)
  have JX6 : ∀ w ∈ wsX60, w ∈ wsX8_removeStrip := in_r _ [35, 36] (by decide +kernel)
  have JX8 : ∀ w ∈ wsX80, w ∈ wsX8_removeStrip := in_r _ [28, 29, 30, 31, 32, 33, 34] (by decide +kernel)
  obtain ⟨hR, hC, hR3, hR10, hC4, hC16, hh, hL⟩ := hA
  have hn : σ (16 + 0) 0 = nI n := hL.1
  have hn8 := hL.2.1
  refine lv_aload_n hx hb dX8_removeStrip_0 rfl (lv_at hl 0 rfl) ?_
  refine r_get CF hK hH 20 (Nat.le_of_ble_eq_true rfl) rfl rfl JX8 3 (by decide) K1 rfl dX8_removeStrip_1 ?_
  refine lv_iload_n hx hb dX8_removeStrip_4 rfl (lv_at hl 1 rfl) ?_
  refine r_callq hS (r_runV (n := 1) (As := [.int x]) (rest := []) CF hK hH (c_X6_find l G σ 0 (by decide) n hn hn8 x) gX8_removeStrip_X6_find rfl rfl rfl rfl (by decide +kernel) ⟨⟨Nat.le_of_ble_eq_true rfl, Nat.le_of_ble_eq_true rfl⟩, Nat.le_of_ble_eq_true rfl, Nat.le_of_ble_eq_true rfl⟩ (16 + 0) rfl (by omega) (we_l G (by decide) _) rfl rfl hl.1 rfl (Nat.le_of_ble_eq_true rfl) dX8_removeStrip_5) (fun r σ1 H locs hq hH hS => ?_)
  obtain ⟨hσ1, hq⟩ := hq
  rw [hσ1] at hH
  rcases hq with ⟨hn5, hr1⟩ | ⟨j5, hj5, hi5, hr1⟩
  · rw [hr1]
    rw [show va_rf none = Value.null from rfl]
    have hin5 := inB_f hn5
    refine lv_ifnonnullN hx hb dX8_removeStrip_8 ?_
    refine lv_bipush (v := (-2)) hx hb dX8_removeStrip_11 (by decide) ?_
    exact r_iret CF hr hlk hH hS dX8_removeStrip_13 ⟨by simp [aRem, hin5], by simp [hin5]⟩
  · rw [hr1]
    rw [show va_rf (some (G.2.1 (8 * 0 + j5))) = Value.ref (G.2.1 (8 * 0 + j5)) from rfl]
    have hin5 := inB_t hj5 hi5 (by omega)
    have hN5 := N_of hi5 (by omega)
    refine lv_ifnonnull (tgt := 14) hx hb dX8_removeStrip_8 (by decide) ?_
    refine lv_aload_n hx hb dX8_removeStrip_14 rfl (lv_at hl 0 rfl) ?_
    refine r_get CF hK hH 20 (Nat.le_of_ble_eq_true rfl) rfl rfl JX8 3 (by decide) K1 rfl dX8_removeStrip_15 ?_
    refine lv_iload_n hx hb dX8_removeStrip_18 rfl (lv_at hl 1 rfl) ?_
    refine r_top (show (x : Int32) = nI j5 from hi5) ?_
    refine r_cV hS (r_runV (n := 1) (As := [.int (nI j5)]) (rest := []) CF hK hH (c_X6_remove l G σ 0 (by decide) n hn hn8 j5 hj5) gX8_removeStrip_X6_remove rfl rfl rfl rfl (by decide +kernel) ⟨⟨Nat.le_of_ble_eq_true rfl, Nat.le_of_ble_eq_true rfl⟩, Nat.le_of_ble_eq_true rfl, Nat.le_of_ble_eq_true rfl⟩ (16 + 0) rfl (by omega) (we_l G (by decide) _) rfl rfl hl.1 rfl (Nat.le_of_ble_eq_true rfl) dX8_removeStrip_19) (fun H locs hH hS => ?_)
    refine lv_aload_n hx hb dX8_removeStrip_22 rfl (lv_at hl 0 rfl) ?_
    refine r_get CF hK hH 20 (Nat.le_of_ble_eq_true rfl) rfl rfl JX8 3 (by decide) K1 rfl dX8_removeStrip_23 ?_
    refine r_get CF hK hH (16 + 0) (by omega) (we_l G (by decide) _) rfl JX6 0 (by decide) K2 rfl dX8_removeStrip_26 ?_
    refine r_top (show ((u2 (rmS σ 0 j5 (n - 1)) (16 + 0) 0 (nI (n - 1))) (16 + 0) 0 : Int32) = nI (n - 1) from (u2_ss _ _ _ _)) ?_
    exact r_iret CF hr hlk hH hS dX8_removeStrip_29 ⟨by simp [aRem, hin5], by simp [hin5, hN5]⟩

set_option maxRecDepth 100000 in
set_option maxHeartbeats 4000000 in
theorem c_X8_stripCount (l : Launch) (G : Gm) (σ : Sg) (R C n : Nat) (sq : Nat → S4) (hA : CA σ R C n sq) : Met l yX8_stripCount wsX8_stripCount (rmO 0 0) (PP G [.ref (G.2.1 20)] σ) (QI G (RV (nI n) σ)) 0 0 (fr G) := by
  refine r_start (cc := cX8_stripCount) (maxL := 1) (ret := (some .int)) (by decide) rfl (Nat.le_of_ble_eq_true rfl) ?_
  intro pz ez sz mz below meth cz ls CF hr hlk hK hH hS hl
  have CF : CallFix pz mz cz cX8_stripCount 1 sz (List.toArray [.ref (G.2.1 20)]) wsX8_stripCount RX8 := CF
  have hx := CF.1
  have hb := CF.2.1
  have hown := CF.2.2.2.1
  have hts := CF.2.2.2.2
  have hl : lv_has ls 1 [(0, .ref (G.2.1 20))] := hl
  have K1 := hts _ (List.mem_of_getElem? (i := 1) rfl)
  have K2 := hts _ (List.mem_of_getElem? (i := 2) rfl)
  have JX6 : ∀ w ∈ wsX60, w ∈ wsX8_stripCount := in_r _ [10, 11] (by decide +kernel)
  have JX8 : ∀ w ∈ wsX80, w ∈ wsX8_stripCount := in_r _ [3, 4, 5, 6, 7, 8, 9] (by decide +kernel)
  obtain ⟨hR, hC, hR3, hR10, hC4, hC16, hh, hL⟩ := hA
  have hn : σ (16 + 0) 0 = nI n := hL.1
  have hn8 := hL.2.1
  refine lv_aload_n hx hb dX8_stripCount_0 rfl (lv_at hl 0 rfl) ?_
  refine r_get CF hK hH 20 (Nat.le_of_ble_eq_true rfl) rfl rfl JX8 3 (by decide) K1 rfl dX8_stripCount_1 ?_
  refine r_get CF hK hH (16 + 0) (by omega) (we_l G (by decide) _) rfl JX6 0 (by decide) K2 rfl dX8_stripCount_4 ?_
  refine r_top (show (σ (16 + 0) 0 : Int32) = nI n from hn) ?_
  exact r_iret CF hr hlk hH hS dX8_stripCount_7 ⟨rfl, rfl⟩

set_option maxRecDepth 100000 in
set_option maxHeartbeats 4000000 in
theorem c_X8_photoCount (l : Launch) (G : Gm) (σ : Sg) (R C n : Nat) (sq : Nat → S4) (hA : CA σ R C n sq) (x : Int32) : Met l yX8_photoCount wsX8_photoCount (rmO 2 41) (PP G [.ref (G.2.1 20), .int x] σ) (QI G (RV (aPhc n sq x) σ)) 0 0 (fr G) := by
  refine r_start (cc := cX8_photoCount) (maxL := 3) (ret := (some .int)) (by decide) rfl (Nat.le_of_ble_eq_true rfl) ?_
  intro pz ez sz mz below meth cz ls CF hr hlk hK hH hS hl
  have CF : CallFix pz mz cz cX8_photoCount 3 sz (List.toArray [.ref (G.2.1 20), .int x]) wsX8_photoCount RX8 := CF
  have hx := CF.1
  have hb := CF.2.1
  have hown := CF.2.2.2.1
  have hts := CF.2.2.2.2
  have hl : lv_has ls 3 [(0, .ref (G.2.1 20)), (1, .int x)] := hl
  have K1 := hts _ (List.mem_of_getElem? (i := 1) rfl)
  have JX8 : ∀ w ∈ wsX80, w ∈ wsX8_photoCount := in_r _ [20, 21, 22, 23, 24, 25, 26] (by decide +kernel)
  obtain ⟨hR, hC, hR3, hR10, hC4, hC16, hh, hL⟩ := hA
  have hn : σ (16 + 0) 0 = nI n := hL.1
  have hn8 := hL.2.1
  refine lv_aload_n hx hb dX8_photoCount_0 rfl (lv_at hl 0 rfl) ?_
  refine r_get CF hK hH 20 (Nat.le_of_ble_eq_true rfl) rfl rfl JX8 3 (by decide) K1 rfl dX8_photoCount_1 ?_
  refine lv_iload_n hx hb dX8_photoCount_4 rfl (lv_at hl 1 rfl) ?_
  refine r_callq hS (r_runV (n := 1) (As := [.int x]) (rest := []) CF hK hH (c_X6_find l G σ 0 (by decide) n hn hn8 x) gX8_photoCount_X6_find rfl rfl rfl rfl (by decide +kernel) ⟨⟨Nat.le_of_ble_eq_true rfl, Nat.le_of_ble_eq_true rfl⟩, Nat.le_of_ble_eq_true rfl, Nat.le_of_ble_eq_true rfl⟩ (16 + 0) rfl (by omega) (we_l G (by decide) _) rfl rfl hl.1 rfl (Nat.le_of_ble_eq_true rfl) dX8_photoCount_5) (fun r σ1 H locs hq hH hS => ?_)
  obtain ⟨hσ1, hq⟩ := hq
  rw [hσ1] at hH
  rcases hq with ⟨hn5, hr1⟩ | ⟨j5, hj5, hi5, hr1⟩
  · rw [hr1]
    rw [show va_rf none = Value.null from rfl]
    have hin5 := inB_f hn5
    refine lv_astore_nN (lv' := [(2, .null), (0, .ref (G.2.1 20)), (1, .int x)]) hx hb dX8_photoCount_8 rfl hl (by decide) rfl (fun ls hl => ?_)
    refine lv_aload_nN hx hb dX8_photoCount_9 rfl (lv_at hl 0 rfl) ?_
    refine lv_ifnonnullN hx hb dX8_photoCount_10 ?_
    refine lv_bipush (v := (-2)) hx hb dX8_photoCount_13 (by decide) ?_
    exact r_iret CF hr hlk hH hS dX8_photoCount_15 ⟨by simp [aPhc, hin5], rfl⟩
  · rw [hr1]
    rw [show va_rf (some (G.2.1 (8 * 0 + j5))) = Value.ref (G.2.1 (8 * 0 + j5)) from rfl]
    have hin5 := inB_t hj5 hi5 (by omega)
    have hN5 := N_of hi5 (by omega)
    refine lv_astore_n (lv' := [(2, .ref (G.2.1 (8 * 0 + j5))), (0, .ref (G.2.1 20)), (1, .int x)]) hx hb dX8_photoCount_8 rfl hl (by decide) rfl (fun ls hl => ?_)
    refine lv_aload_n hx hb dX8_photoCount_9 rfl (lv_at hl 0 rfl) ?_
    refine lv_ifnonnull (tgt := 16) hx hb dX8_photoCount_10 (by decide) ?_
    refine lv_aload_n hx hb dX8_photoCount_16 rfl (lv_at hl 0 rfl) ?_
    refine r_cR hS (r_runV (n := 0) (As := []) (rest := []) CF hK hH (c_X5_photos l G σ (8 * 0 + j5) (by omega) (sq j5) (hL.2.2 j5 (by omega))) gX8_photoCount_X5_photos rfl rfl rfl rfl (by decide +kernel) ⟨⟨Nat.le_of_ble_eq_true rfl, Nat.le_of_ble_eq_true rfl⟩, Nat.le_of_ble_eq_true rfl, Nat.le_of_ble_eq_true rfl⟩ (8 * 0 + j5) rfl (by omega) (we_s G (by omega) _) rfl rfl hl.1 rfl (Nat.le_of_ble_eq_true rfl) dX8_photoCount_17) (fun H locs hH hS => ?_)
    exact r_iret CF hr hlk hH hS dX8_photoCount_20 ⟨by simp [aPhc, hin5, hN5], rfl⟩

set_option maxRecDepth 100000 in
set_option maxHeartbeats 4000000 in
theorem c_X8_photoColumn (l : Launch) (G : Gm) (σ : Sg) (R C n : Nat) (sq : Nat → S4) (hA : CA σ R C n sq) (x p : Int32) : Met l yX8_photoColumn wsX8_photoColumn (rmO 3 62) (PP G [.ref (G.2.1 20), .int x, .int p] σ) (QI G (RV (aPhcol n sq x p) σ)) 0 0 (fr G) := by
  refine r_start (cc := cX8_photoColumn) (maxL := 4) (ret := (some .int)) (by decide) rfl (Nat.le_of_ble_eq_true rfl) ?_
  intro pz ez sz mz below meth cz ls CF hr hlk hK hH hS hl
  have CF : CallFix pz mz cz cX8_photoColumn 4 sz (List.toArray [.ref (G.2.1 20), .int x, .int p]) wsX8_photoColumn RX8 := CF
  have hx := CF.1
  have hb := CF.2.1
  have hown := CF.2.2.2.1
  have hts := CF.2.2.2.2
  have hl : lv_has ls 4 [(0, .ref (G.2.1 20)), (1, .int x), (2, .int p)] := hl
  have K1 := hts _ (List.mem_of_getElem? (i := 1) rfl)
  have JX8 : ∀ w ∈ wsX80, w ∈ wsX8_photoColumn := in_r _ [28, 29, 30, 31, 32, 33, 34] (by decide +kernel)
  obtain ⟨hR, hC, hR3, hR10, hC4, hC16, hh, hL⟩ := hA
  have hn : σ (16 + 0) 0 = nI n := hL.1
  have hn8 := hL.2.1
  refine lv_aload_n hx hb dX8_photoColumn_0 rfl (lv_at hl 0 rfl) ?_
  refine r_get CF hK hH 20 (Nat.le_of_ble_eq_true rfl) rfl rfl JX8 3 (by decide) K1 rfl dX8_photoColumn_1 ?_
  refine lv_iload_n hx hb dX8_photoColumn_4 rfl (lv_at hl 1 rfl) ?_
  refine r_callq hS (r_runV (n := 1) (As := [.int x]) (rest := []) CF hK hH (c_X6_find l G σ 0 (by decide) n hn hn8 x) gX8_photoColumn_X6_find rfl rfl rfl rfl (by decide +kernel) ⟨⟨Nat.le_of_ble_eq_true rfl, Nat.le_of_ble_eq_true rfl⟩, Nat.le_of_ble_eq_true rfl, Nat.le_of_ble_eq_true rfl⟩ (16 + 0) rfl (by omega) (we_l G (by decide) _) rfl rfl hl.1 rfl (Nat.le_of_ble_eq_true rfl) dX8_photoColumn_5) (fun r σ1 H locs hq hH hS => ?_)
  obtain ⟨hσ1, hq⟩ := hq
  rw [hσ1] at hH
  rcases hq with ⟨hn5, hr1⟩ | ⟨j5, hj5, hi5, hr1⟩
  · rw [hr1]
    rw [show va_rf none = Value.null from rfl]
    have hin5 := inB_f hn5
    refine lv_astore_nN (lv' := [(3, .null), (0, .ref (G.2.1 20)), (1, .int x), (2, .int p)]) hx hb dX8_photoColumn_8 rfl hl (by decide) rfl (fun ls hl => ?_)
    refine lv_aload_nN hx hb dX8_photoColumn_9 rfl (lv_at hl 0 rfl) ?_
    refine lv_ifnonnullN hx hb dX8_photoColumn_10 ?_
    refine lv_bipush (v := (-2)) hx hb dX8_photoColumn_13 (by decide) ?_
    exact r_iret CF hr hlk hH hS dX8_photoColumn_15 ⟨by simp [aPhcol, hin5, ], rfl⟩
  · rw [hr1]
    rw [show va_rf (some (G.2.1 (8 * 0 + j5))) = Value.ref (G.2.1 (8 * 0 + j5)) from rfl]
    have hin5 := inB_t hj5 hi5 (by omega)
    have hN5 := N_of hi5 (by omega)
    refine lv_astore_n (lv' := [(3, .ref (G.2.1 (8 * 0 + j5))), (0, .ref (G.2.1 20)), (1, .int x), (2, .int p)]) hx hb dX8_photoColumn_8 rfl hl (by decide) rfl (fun ls hl => ?_)
    refine lv_aload_n hx hb dX8_photoColumn_9 rfl (lv_at hl 0 rfl) ?_
    refine lv_ifnonnull (tgt := 16) hx hb dX8_photoColumn_10 (by decide) ?_
    refine lv_aload_n hx hb dX8_photoColumn_16 rfl (lv_at hl 0 rfl) ?_
    refine lv_iload_n hx hb dX8_photoColumn_17 rfl (lv_at hl 3 rfl) ?_
    refine r_cR hS (r_runV (n := 1) (As := [.int p]) (rest := []) CF hK hH (c_X5_hasPhoto l G σ (8 * 0 + j5) (by omega) (sq j5) (hL.2.2 j5 (by omega)) p) gX8_photoColumn_X5_hasPhoto rfl rfl rfl rfl (by decide +kernel) ⟨⟨Nat.le_of_ble_eq_true rfl, Nat.le_of_ble_eq_true rfl⟩, Nat.le_of_ble_eq_true rfl, Nat.le_of_ble_eq_true rfl⟩ (8 * 0 + j5) rfl (by omega) (we_s G (by omega) _) rfl rfl hl.1 rfl (Nat.le_of_ble_eq_true rfl) dX8_photoColumn_18) (fun H locs hH hS => ?_)
    refine r_ifneB (tgt := 27) hx hb dX8_photoColumn_21 (by decide) (fun c21 => ?_) (fun c21 => ?_)
    · obtain ⟨pn, hpn, ep⟩ := inB_of (show inB p (phF (sq j5)) = true from c21) (by have := phF_le (hL.2.2 j5 (by omega)).2.2.2.2; omega)
      have epN := N_of ep (by have := phF_le (hL.2.2 j5 (by omega)).2.2.2.2; omega)
      have c21 : inB p (phF (sq j5)) = true := c21
      refine lv_aload_n hx hb dX8_photoColumn_27 rfl (lv_at hl 0 rfl) ?_
      refine lv_iload_n hx hb dX8_photoColumn_28 rfl (lv_at hl 3 rfl) ?_
      refine r_top (show (p : Int32) = nI pn from ep) ?_
      refine r_cR hS (r_runV (n := 1) (As := [.int (nI pn)]) (rest := []) CF hK hH (c_X5_columnOf l G σ (8 * 0 + j5) (by omega) (sq j5) (hL.2.2 j5 (by omega)) pn) gX8_photoColumn_X5_columnOf rfl rfl rfl rfl (by decide +kernel) ⟨⟨Nat.le_of_ble_eq_true rfl, Nat.le_of_ble_eq_true rfl⟩, Nat.le_of_ble_eq_true rfl, Nat.le_of_ble_eq_true rfl⟩ (8 * 0 + j5) rfl (by omega) (we_s G (by omega) _) rfl rfl hl.1 rfl (Nat.le_of_ble_eq_true rfl) dX8_photoColumn_29) (fun H locs hH hS => ?_)
      exact r_iret CF hr hlk hH hS dX8_photoColumn_32 ⟨by simp [aPhcol, hin5, hN5, epN, c21], rfl⟩
    · have c21 : inB p (phF (sq j5)) = false := c21
      refine lv_bipush (v := (-3)) hx hb dX8_photoColumn_24 (by decide) ?_
      exact r_iret CF hr hlk hH hS dX8_photoColumn_26 ⟨by simp [aPhcol, hin5, hN5, c21], rfl⟩

set_option maxRecDepth 100000 in
set_option maxHeartbeats 4000000 in
theorem c_X8_seesCell (l : Launch) (G : Gm) (σ : Sg) (R C n : Nat) (sq : Nat → S4) (hA : CA σ R C n sq) (x p y z : Int32) : Met l yX8_seesCell wsX8_seesCell (rmO 3 84) (PP G [.ref (G.2.1 20), .int x, .int p, .int y, .int z] σ) (QI G (RV (aSee R C (σ 22) (cmC σ) n sq x p y z) σ)) 0 0 (fr G) := by
  refine r_start (cc := cX8_seesCell) (maxL := 6) (ret := (some .int)) (by decide) rfl (Nat.le_of_ble_eq_true rfl) ?_
  intro pz ez sz mz below meth cz ls CF hr hlk hK hH hS hl
  have CF : CallFix pz mz cz cX8_seesCell 6 sz (List.toArray [.ref (G.2.1 20), .int x, .int p, .int y, .int z]) wsX8_seesCell RX8 := CF
  have hx := CF.1
  have hb := CF.2.1
  have hown := CF.2.2.2.1
  have hts := CF.2.2.2.2
  have hl : lv_has ls 6 [(0, .ref (G.2.1 20)), (1, .int x), (2, .int p), (3, .int y), (4, .int z)] := hl
  have K1 := hts _ (List.mem_of_getElem? (i := 1) rfl)
  have K2 := hts _ (List.mem_of_getElem? (i := 2) rfl)
  have K3 := hts _ (List.mem_of_getElem? (i := 3) rfl)
  have K4 := hts _ (List.mem_of_getElem? (i := 4) rfl)
  have JX5 : ∀ w ∈ wsX50, w ∈ wsX8_seesCell := in_r _ [74, 75, 76, 77] (by decide +kernel)
  have JX8 : ∀ w ∈ wsX80, w ∈ wsX8_seesCell := in_r _ [67, 68, 69, 70, 71, 72, 73] (by decide +kernel)
  obtain ⟨hR, hC, hR3, hR10, hC4, hC16, hh, hL⟩ := hA
  have hn : σ (16 + 0) 0 = nI n := hL.1
  have hn8 := hL.2.1
  refine lv_aload_n hx hb dX8_seesCell_0 rfl (lv_at hl 0 rfl) ?_
  refine r_get CF hK hH 20 (Nat.le_of_ble_eq_true rfl) rfl rfl JX8 3 (by decide) K1 rfl dX8_seesCell_1 ?_
  refine lv_iload_n hx hb dX8_seesCell_4 rfl (lv_at hl 1 rfl) ?_
  refine r_callq hS (r_runV (n := 1) (As := [.int x]) (rest := []) CF hK hH (c_X6_find l G σ 0 (by decide) n hn hn8 x) gX8_seesCell_X6_find rfl rfl rfl rfl (by decide +kernel) ⟨⟨Nat.le_of_ble_eq_true rfl, Nat.le_of_ble_eq_true rfl⟩, Nat.le_of_ble_eq_true rfl, Nat.le_of_ble_eq_true rfl⟩ (16 + 0) rfl (by omega) (we_l G (by decide) _) rfl rfl hl.1 rfl (Nat.le_of_ble_eq_true rfl) dX8_seesCell_5) (fun r σ1 H locs hq hH hS => ?_)
  obtain ⟨hσ1, hq⟩ := hq
  rw [hσ1] at hH
  rcases hq with ⟨hn5, hr1⟩ | ⟨j5, hj5, hi5, hr1⟩
  · rw [hr1]
    rw [show va_rf none = Value.null from rfl]
    have hin5 := inB_f hn5
    refine lv_astoreN (lv' := [(5, .null), (0, .ref (G.2.1 20)), (1, .int x), (2, .int p), (3, .int y), (4, .int z)]) hx hb dX8_seesCell_8 hl (by decide) rfl (fun ls hl => ?_)
    refine lv_aloadN hx hb dX8_seesCell_10 (lv_at hl 0 rfl) ?_
    refine lv_ifnonnullN hx hb dX8_seesCell_12 ?_
    refine lv_bipush (v := (-2)) hx hb dX8_seesCell_15 (by decide) ?_
    exact r_iret CF hr hlk hH hS dX8_seesCell_17 ⟨by simp [aSee, hin5, ], rfl⟩
  · rw [hr1]
    rw [show va_rf (some (G.2.1 (8 * 0 + j5))) = Value.ref (G.2.1 (8 * 0 + j5)) from rfl]
    have hin5 := inB_t hj5 hi5 (by omega)
    have hN5 := N_of hi5 (by omega)
    refine lv_astore (lv' := [(5, .ref (G.2.1 (8 * 0 + j5))), (0, .ref (G.2.1 20)), (1, .int x), (2, .int p), (3, .int y), (4, .int z)]) hx hb dX8_seesCell_8 hl (by decide) rfl (fun ls hl => ?_)
    refine lv_aload hx hb dX8_seesCell_10 (lv_at hl 0 rfl) ?_
    refine lv_ifnonnull (tgt := 18) hx hb dX8_seesCell_12 (by decide) ?_
    refine lv_aload hx hb dX8_seesCell_18 (lv_at hl 0 rfl) ?_
    refine lv_iload_n hx hb dX8_seesCell_20 rfl (lv_at hl 3 rfl) ?_
    refine r_cR hS (r_runV (n := 1) (As := [.int p]) (rest := []) CF hK hH (c_X5_hasPhoto l G σ (8 * 0 + j5) (by omega) (sq j5) (hL.2.2 j5 (by omega)) p) gX8_seesCell_X5_hasPhoto rfl rfl rfl rfl (by decide +kernel) ⟨⟨Nat.le_of_ble_eq_true rfl, Nat.le_of_ble_eq_true rfl⟩, Nat.le_of_ble_eq_true rfl, Nat.le_of_ble_eq_true rfl⟩ (8 * 0 + j5) rfl (by omega) (we_s G (by omega) _) rfl rfl hl.1 rfl (Nat.le_of_ble_eq_true rfl) dX8_seesCell_21) (fun H locs hH hS => ?_)
    refine r_ifneB (tgt := 30) hx hb dX8_seesCell_24 (by decide) (fun c24 => ?_) (fun c24 => ?_)
    · obtain ⟨pn, hpn, ep⟩ := inB_of (show inB p (phF (sq j5)) = true from c24) (by have := phF_le (hL.2.2 j5 (by omega)).2.2.2.2; omega)
      have epN := N_of ep (by have := phF_le (hL.2.2 j5 (by omega)).2.2.2.2; omega)
      have c24 : inB p (phF (sq j5)) = true := c24
      refine lv_aload_n hx hb dX8_seesCell_30 rfl (lv_at hl 1 rfl) ?_
      refine r_get CF hK hH 20 (Nat.le_of_ble_eq_true rfl) rfl rfl JX8 0 (by decide) K2 rfl dX8_seesCell_31 ?_
      refine lv_iload_n hx hb dX8_seesCell_34 rfl (lv_at hl 4 rfl) ?_
      refine lv_iload hx hb dX8_seesCell_35 (lv_at hl 5 rfl) ?_
      refine r_cR hS (r_runV (n := 2) (As := [.int y, .int z]) (rest := []) CF hK hH (c_X7_contains l G σ y z) gX8_seesCell_X7_contains rfl rfl rfl rfl (by decide +kernel) ⟨⟨Nat.le_of_ble_eq_true rfl, Nat.le_of_ble_eq_true rfl⟩, Nat.le_of_ble_eq_true rfl, Nat.le_of_ble_eq_true rfl⟩ 21 rfl (Nat.le_of_ble_eq_true rfl) rfl rfl rfl hl.1 rfl (Nat.le_of_ble_eq_true rfl) dX8_seesCell_37) (fun H locs hH hS => ?_)
      refine r_top (show (b2i (isC σ y z) : Int32) = b2i (inB y R && inB z C) from (by rw [isC_eq hR hC])) ?_
      refine r_ifneB (tgt := 45) hx hb dX8_seesCell_40 (by decide) (fun c40 => ?_) (fun c40 => ?_)
      · obtain ⟨r, c, hr1, hc1, ex, ey, exN, eyN⟩ := inC_of c40 hR10 hC16
        have hq := (hL.2.2 j5 (by omega)).2.2.2.2
        have hcol := ph_col hq hpn
        refine lv_aload_n hx hb dX8_seesCell_45 rfl (lv_at hl 1 rfl) ?_
        refine r_get CF hK hH 20 (Nat.le_of_ble_eq_true rfl) rfl rfl JX8 1 (by decide) K3 rfl dX8_seesCell_46 ?_
        refine lv_aload_n hx hb dX8_seesCell_49 rfl (lv_at hl 1 rfl) ?_
        refine r_get CF hK hH 20 (Nat.le_of_ble_eq_true rfl) rfl rfl JX8 0 (by decide) K2 rfl dX8_seesCell_50 ?_
        refine lv_aload hx hb dX8_seesCell_53 (lv_at hl 0 rfl) ?_
        refine r_get CF hK hH (8 * 0 + j5) (by omega) (we_s G (by omega) _) rfl JX5 0 (by decide) K4 rfl dX8_seesCell_55 ?_
        refine r_top (show (σ (8 * 0 + j5) 0 : Int32) = nI (sq j5).1 from (hL.2.2 j5 (by omega)).1) ?_
        refine lv_aload hx hb dX8_seesCell_58 (lv_at hl 0 rfl) ?_
        refine lv_iload_n hx hb dX8_seesCell_60 rfl (lv_at hl 3 rfl) ?_
        refine r_top (show (p : Int32) = nI pn from ep) ?_
        refine r_cR hS (r_runV (n := 1) (As := [.int (nI pn)]) (rest := [.int (nI (sq j5).1), .ref (G.2.1 21), .ref (G.2.1 23)]) CF hK hH (c_X5_columnOf l G σ (8 * 0 + j5) (by omega) (sq j5) (hL.2.2 j5 (by omega)) pn) gX8_seesCell_X5_columnOf rfl rfl rfl rfl (by decide +kernel) ⟨⟨Nat.le_of_ble_eq_true rfl, Nat.le_of_ble_eq_true rfl⟩, Nat.le_of_ble_eq_true rfl, Nat.le_of_ble_eq_true rfl⟩ (8 * 0 + j5) rfl (by omega) (we_s G (by omega) _) rfl rfl hl.1 rfl (Nat.le_of_ble_eq_true rfl) dX8_seesCell_61) (fun H locs hH hS => ?_)
        refine lv_iload_n hx hb dX8_seesCell_64 rfl (lv_at hl 4 rfl) ?_
        refine r_top (show (y : Int32) = nI r from ex) ?_
        refine lv_iload hx hb dX8_seesCell_65 (lv_at hl 5 rfl) ?_
        refine r_top (show (z : Int32) = nI c from ey) ?_
        refine r_cR hS (r_runV (n := 5) (As := [.ref (G.2.1 21), .int (nI (sq j5).1), .int (nI ((sq j5).2.1 + pn * (sq j5).2.2.2)), .int (nI r), .int (nI c)]) (rest := []) CF hK hH (c_X1_sees l G σ (sq j5).1 ((sq j5).2.1 + pn * (sq j5).2.2.2) r c hq.1 (by have := hq.2.2.1; omega) (by omega) (by omega) hh) gX8_seesCell_X1_sees rfl rfl rfl rfl (by decide +kernel) ⟨⟨Nat.le_of_ble_eq_true rfl, Nat.le_of_ble_eq_true rfl⟩, Nat.le_of_ble_eq_true rfl, Nat.le_of_ble_eq_true rfl⟩ 23 rfl (Nat.le_of_ble_eq_true rfl) rfl rfl rfl hl.1 rfl (Nat.le_of_ble_eq_true rfl) dX8_seesCell_67) (fun H locs hH hS => ?_)
        refine r_ifeqB (tgt := 77) hx hb dX8_seesCell_70 (by decide) (fun c70 => ?_) (fun c70 => ?_)
        · refine lv_iconst (v := 0) hx hb dX8_seesCell_77 (by decide) ?_
          exact r_iret CF hr hlk hH hS dX8_seesCell_78 ⟨by simp [aSee, hin5, hN5, epN, exN, eyN, psF, c24, c40, c70, b2i], rfl⟩
        · refine lv_iconst (v := 1) hx hb dX8_seesCell_73 (by decide) ?_
          refine lv_goto (tgt := 78) hx hb dX8_seesCell_74 (by decide) ?_
          exact r_iret CF hr hlk hH hS dX8_seesCell_78 ⟨by simp [aSee, hin5, hN5, epN, exN, eyN, psF, c24, c40, c70, b2i], rfl⟩
      · refine lv_iconst (v := (-1)) hx hb dX8_seesCell_43 (by decide) ?_
        exact r_iret CF hr hlk hH hS dX8_seesCell_44 ⟨by simp [aSee, hin5, hN5, c24, c40], rfl⟩
    · have c24 : inB p (phF (sq j5)) = false := c24
      refine lv_bipush (v := (-3)) hx hb dX8_seesCell_27 (by decide) ?_
      exact r_iret CF hr hlk hH hS dX8_seesCell_29 ⟨by simp [aSee, hin5, hN5, c24], rfl⟩

theorem fpP_at (g : Nat → Int32) (cm : Cm) (q : S4) (p : Nat) {i j C : Nat} (h : j < C) : fpP g cm q p C (i * C + j) = seesF g cm q.1 (q.2.1 + p * q.2.2.2) i j := by
  unfold fpP psF; rw [dm1 h, dm2 h]
theorem ssP_at (g : Nat → Int32) (cm : Cm) (q : S4) {i j C : Nat} (h : j < C) : ssP g cm q C (i * C + j) = ssF g cm q i j := by
  unfold ssP; rw [dm1 h, dm2 h]
theorem cntT {p : Nat → Bool} {a : Nat} {x : Int32} (hp : p a = true) (h : x = nI (cnt p a)) : x + (1) = nI (cnt p (a + 1)) := by rw [cnt_t hp, h]; exact nI_1 _
theorem cntF {p : Nat → Bool} {a : Nat} {x : Int32} (hp : p a = false) (h : x = nI (cnt p a)) : x = nI (cnt p (a + 1)) := by rw [cnt_f hp, h]

set_option maxRecDepth 100000 in
set_option maxHeartbeats 4000000 in
theorem c_X8_footprintSize (l : Launch) (G : Gm) (σ : Sg) (R C n : Nat) (sq : Nat → S4) (hA : CA σ R C n sq) (x p : Int32) : Met l yX8_footprintSize wsX8_footprintSize (rmO 3 84) (PP G [.ref (G.2.1 20), .int x, .int p] σ) (QI G (RV (aFoot R C (σ 22) (cmC σ) n sq x p) σ)) 0 0 (fr G) := by
  refine r_start (cc := cX8_footprintSize) (maxL := 8) (ret := (some .int)) (by decide) rfl (Nat.le_of_ble_eq_true rfl) ?_
  intro pz ez sz mz below meth cz ls CF hr hlk hK hH hS hl
  have CF : CallFix pz mz cz cX8_footprintSize 8 sz (List.toArray [.ref (G.2.1 20), .int x, .int p]) wsX8_footprintSize RX8 := CF
  have hx := CF.1
  have hb := CF.2.1
  have hown := CF.2.2.2.1
  have hts := CF.2.2.2.2
  have hl : lv_has ls 8 [(0, .ref (G.2.1 20)), (1, .int x), (2, .int p)] := hl
  have K1 := hts _ (List.mem_of_getElem? (i := 1) rfl)
  have K2 := hts _ (List.mem_of_getElem? (i := 2) rfl)
  have K3 := hts _ (List.mem_of_getElem? (i := 3) rfl)
  have K4 := hts _ (List.mem_of_getElem? (i := 4) rfl)
  have K5 := hts _ (List.mem_of_getElem? (i := 5) rfl)
  have K6 := hts _ (List.mem_of_getElem? (i := 6) rfl)
  have JX5 : ∀ w ∈ wsX50, w ∈ wsX8_footprintSize := in_r _ [73, 74, 75, 76] (by decide +kernel)
  have JX7 : ∀ w ∈ wsX70, w ∈ wsX8_footprintSize := in_r _ [70, 71, 72] (by decide +kernel)
  have JX8 : ∀ w ∈ wsX80, w ∈ wsX8_footprintSize := in_r _ [63, 64, 65, 66, 67, 68, 69] (by decide +kernel)
  obtain ⟨hR, hC, hR3, hR10, hC4, hC16, hh, hL⟩ := hA
  have hn : σ (16 + 0) 0 = nI n := hL.1
  have hn8 := hL.2.1
  refine lv_aload_n hx hb dX8_footprintSize_0 rfl (lv_at hl 0 rfl) ?_
  refine r_get CF hK hH 20 (Nat.le_of_ble_eq_true rfl) rfl rfl JX8 3 (by decide) K1 rfl dX8_footprintSize_1 ?_
  refine lv_iload_n hx hb dX8_footprintSize_4 rfl (lv_at hl 1 rfl) ?_
  refine r_callq hS (r_runV (n := 1) (As := [.int x]) (rest := []) CF hK hH (c_X6_find l G σ 0 (by decide) n hn hn8 x) gX8_footprintSize_X6_find rfl rfl rfl rfl (by decide +kernel) ⟨⟨Nat.le_of_ble_eq_true rfl, Nat.le_of_ble_eq_true rfl⟩, Nat.le_of_ble_eq_true rfl, Nat.le_of_ble_eq_true rfl⟩ (16 + 0) rfl (by omega) (we_l G (by decide) _) rfl rfl hl.1 rfl (Nat.le_of_ble_eq_true rfl) dX8_footprintSize_5) (fun r σ1 H locs hq hH hS => ?_)
  obtain ⟨hσ1, hq⟩ := hq
  rw [hσ1] at hH
  rcases hq with ⟨hn5, hr1⟩ | ⟨j5, hj5, hi5, hr1⟩
  · rw [hr1]
    rw [show va_rf none = Value.null from rfl]
    have hin5 := inB_f hn5
    refine lv_astore_nN (lv' := [(3, .null), (0, .ref (G.2.1 20)), (1, .int x), (2, .int p)]) hx hb dX8_footprintSize_8 rfl hl (by decide) rfl (fun ls hl => ?_)
    refine lv_aload_nN hx hb dX8_footprintSize_9 rfl (lv_at hl 0 rfl) ?_
    refine lv_ifnonnullN hx hb dX8_footprintSize_10 ?_
    refine lv_bipush (v := (-2)) hx hb dX8_footprintSize_13 (by decide) ?_
    exact r_iret CF hr hlk hH hS dX8_footprintSize_15 ⟨by simp [aFoot, hin5], rfl⟩
  · rw [hr1]
    rw [show va_rf (some (G.2.1 (8 * 0 + j5))) = Value.ref (G.2.1 (8 * 0 + j5)) from rfl]
    have hin5 := inB_t hj5 hi5 (by omega)
    have hN5 := N_of hi5 (by omega)
    refine lv_astore_n (lv' := [(3, .ref (G.2.1 (8 * 0 + j5))), (0, .ref (G.2.1 20)), (1, .int x), (2, .int p)]) hx hb dX8_footprintSize_8 rfl hl (by decide) rfl (fun ls hl => ?_)
    refine lv_aload_n hx hb dX8_footprintSize_9 rfl (lv_at hl 0 rfl) ?_
    refine lv_ifnonnull (tgt := 16) hx hb dX8_footprintSize_10 (by decide) ?_
    refine lv_aload_n hx hb dX8_footprintSize_16 rfl (lv_at hl 0 rfl) ?_
    refine lv_iload_n hx hb dX8_footprintSize_17 rfl (lv_at hl 3 rfl) ?_
    refine r_cR hS (r_runV (n := 1) (As := [.int p]) (rest := []) CF hK hH (c_X5_hasPhoto l G σ (8 * 0 + j5) (by omega) (sq j5) (hL.2.2 j5 (by omega)) p) gX8_footprintSize_X5_hasPhoto rfl rfl rfl rfl (by decide +kernel) ⟨⟨Nat.le_of_ble_eq_true rfl, Nat.le_of_ble_eq_true rfl⟩, Nat.le_of_ble_eq_true rfl, Nat.le_of_ble_eq_true rfl⟩ (8 * 0 + j5) rfl (by omega) (we_s G (by omega) _) rfl rfl hl.1 rfl (Nat.le_of_ble_eq_true rfl) dX8_footprintSize_18) (fun H locs hH hS => ?_)
    refine r_ifneB (tgt := 27) hx hb dX8_footprintSize_21 (by decide) (fun c21 => ?_) (fun c21 => ?_)
    · obtain ⟨pn, hpn, ep⟩ := inB_of (show inB p (phF (sq j5)) = true from c21) (by have := phF_le (hL.2.2 j5 (by omega)).2.2.2.2; omega)
      have epN := N_of ep (by have := phF_le (hL.2.2 j5 (by omega)).2.2.2.2; omega)
      have c21 : inB p (phF (sq j5)) = true := c21
      have hq := (hL.2.2 j5 (by omega)).2.2.2.2
      have hcol := ph_col hq hpn
      refine lv_aload_n hx hb dX8_footprintSize_27 rfl (lv_at hl 0 rfl) ?_
      refine lv_iload_n hx hb dX8_footprintSize_28 rfl (lv_at hl 3 rfl) ?_
      refine r_top (show (p : Int32) = nI pn from ep) ?_
      refine r_cR hS (r_runV (n := 1) (As := [.int (nI pn)]) (rest := []) CF hK hH (c_X5_columnOf l G σ (8 * 0 + j5) (by omega) (sq j5) (hL.2.2 j5 (by omega)) pn) gX8_footprintSize_X5_columnOf rfl rfl rfl rfl (by decide +kernel) ⟨⟨Nat.le_of_ble_eq_true rfl, Nat.le_of_ble_eq_true rfl⟩, Nat.le_of_ble_eq_true rfl, Nat.le_of_ble_eq_true rfl⟩ (8 * 0 + j5) rfl (by omega) (we_s G (by omega) _) rfl rfl hl.1 rfl (Nat.le_of_ble_eq_true rfl) dX8_footprintSize_29) (fun H locs hH hS => ?_)
      refine lv_istore (lv' := [(4, .int (nI ((sq j5).2.1 + pn * (sq j5).2.2.2))), (3, .ref (G.2.1 (8 * 0 + j5))), (0, .ref (G.2.1 20)), (1, .int x), (2, .int p)]) hx hb dX8_footprintSize_32 hl (by decide) rfl (fun ls hl => ?_)
      refine lv_iconst (v := 0) hx hb dX8_footprintSize_34 (by decide) ?_
      refine lv_istore (lv' := [(5, .int (0 : Int32)), (4, .int (nI ((sq j5).2.1 + pn * (sq j5).2.2.2))), (3, .ref (G.2.1 (8 * 0 + j5))), (0, .ref (G.2.1 20)), (1, .int x), (2, .int p)]) hx hb dX8_footprintSize_35 hl (by decide) rfl (fun ls hl => ?_)
      refine lv_iconst (v := 0) hx hb dX8_footprintSize_37 (by decide) ?_
      refine lv_istore (lv' := [(6, .int (0 : Int32)), (5, .int (0 : Int32)), (4, .int (nI ((sq j5).2.1 + pn * (sq j5).2.2.2))), (3, .ref (G.2.1 (8 * 0 + j5))), (0, .ref (G.2.1 20)), (1, .int x), (2, .int p)]) hx hb dX8_footprintSize_38 hl (by decide) rfl (fun ls hl => ?_)
      have lp40 : ∀ (fu : Nat) (i : Nat) (x5 : Int32) (H : Heap) (locs : List Loc) (ls : Array Slot), (R + 1 ≤ i + fu) → (i ≤ R) → (x5 = nI (cnt (fpP (σ 22) (cmC σ) (sq j5) pn C) (i * C))) → Hp G σ H → va_S (fr G) sz.heap H locs → lv_has ls 8 [(0, .ref (G.2.1 20)), (3, .ref (G.2.1 (8 * 0 + j5))), (4, .int (nI ((sq j5).2.1 + pn * (sq j5).2.2.2))), (5, .int x5), (6, .int (nI i))] → W pz l ez (rmO 3 84) sz mz (List.toArray [.ref (G.2.1 20), .int x, .int p]) below meth cz H locs 0 0 (MQ below (QI G (RV (aFoot R C (σ 22) (cmC σ) n sq x p) σ)) (List.toArray [.ref (G.2.1 20), .int x, .int p]) sz 0 0 (fr G)) (F0 mz 40 ls []) := by
        intro fu
        induction fu with
        | zero => intros; omega
        | succ fu ih40 =>
          intro i x5 H locs ls hf hi hz hH hS hl
          refine lv_iload hx hb dX8_footprintSize_40 (lv_at hl 4 rfl) ?_
          refine lv_aload_n hx hb dX8_footprintSize_42 rfl (lv_at hl 0 rfl) ?_
          refine r_get CF hK hH 20 (Nat.le_of_ble_eq_true rfl) rfl rfl JX8 0 (by decide) K2 rfl dX8_footprintSize_43 ?_
          refine r_get CF hK hH 21 (Nat.le_of_ble_eq_true rfl) rfl rfl JX7 0 (by decide) K3 rfl dX8_footprintSize_46 ?_
          refine r_top (show (σ 21 0 : Int32) = nI R from hR) ?_
          refine lv_icmp_ge (tgt := 106) hx hb dX8_footprintSize_49 (by decide) (fun c49 => ?_) (fun c49 => ?_)
          · have c49 : R ≤ i := (nI_leI (a := R) (b := i) (by omega) (by omega)).mp c49
            refine lv_iload hx hb dX8_footprintSize_106 (lv_at hl 3 rfl) ?_
            exact r_iret CF hr hlk hH hS dX8_footprintSize_108 ⟨by have e : i = R := (by omega); subst e; simp [aFoot, hin5, hN5, epN, c21, hz], rfl⟩
          · have c49 : i < R := Nat.lt_of_not_le (fun zq => c49 ((nI_leI (a := R) (b := i) (by omega) (by omega)).mpr zq))
            refine lv_iconst (v := 0) hx hb dX8_footprintSize_52 (by decide) ?_
            refine lv_istore (lv' := [(7, .int (0 : Int32)), (0, .ref (G.2.1 20)), (3, .ref (G.2.1 (8 * 0 + j5))), (4, .int (nI ((sq j5).2.1 + pn * (sq j5).2.2.2))), (5, .int x5), (6, .int (nI i))]) hx hb dX8_footprintSize_53 hl (by decide) rfl (fun ls hl => ?_)
            have lp55 : ∀ (fv : Nat) (j : Nat) (y5 : Int32) (H : Heap) (locs : List Loc) (ls : Array Slot), (C + 1 ≤ j + fv) → (j ≤ C) → (y5 = nI (cnt (fpP (σ 22) (cmC σ) (sq j5) pn C) ((i * C + j)))) → Hp G σ H → va_S (fr G) sz.heap H locs → lv_has ls 8 [(0, .ref (G.2.1 20)), (3, .ref (G.2.1 (8 * 0 + j5))), (4, .int (nI ((sq j5).2.1 + pn * (sq j5).2.2.2))), (5, .int y5), (6, .int (nI i)), (7, .int (nI j))] → W pz l ez (rmO 3 84) sz mz (List.toArray [.ref (G.2.1 20), .int x, .int p]) below meth cz H locs 0 0 (MQ below (QI G (RV (aFoot R C (σ 22) (cmC σ) n sq x p) σ)) (List.toArray [.ref (G.2.1 20), .int x, .int p]) sz 0 0 (fr G)) (F0 mz 55 ls []) := by
              intro fv
              induction fv with
              | zero => intros; omega
              | succ fv ih55 =>
                intro j y5 H locs ls hg hj hz' hH hS hl
                refine lv_iload hx hb dX8_footprintSize_55 (lv_at hl 5 rfl) ?_
                refine lv_aload_n hx hb dX8_footprintSize_57 rfl (lv_at hl 0 rfl) ?_
                refine r_get CF hK hH 20 (Nat.le_of_ble_eq_true rfl) rfl rfl JX8 0 (by decide) K2 rfl dX8_footprintSize_58 ?_
                refine r_get CF hK hH 21 (Nat.le_of_ble_eq_true rfl) rfl rfl JX7 1 (by decide) K4 rfl dX8_footprintSize_61 ?_
                refine r_top (show (σ 21 1 : Int32) = nI C from hC) ?_
                refine lv_icmp_ge (tgt := 100) hx hb dX8_footprintSize_64 (by decide) (fun c64 => ?_) (fun c64 => ?_)
                · have c64 : C ≤ j := (nI_leI (a := C) (b := j) (by omega) (by omega)).mp c64
                  refine lv_iinc (v := nI (i + 1)) (lv' := [(6, .int (nI (i + 1))), (0, .ref (G.2.1 20)), (3, .ref (G.2.1 (8 * 0 + j5))), (4, .int (nI ((sq j5).2.1 + pn * (sq j5).2.2.2))), (5, .int y5), (7, .int (nI j))]) hx hb dX8_footprintSize_100 hl (k := 4) rfl (nI_1 _) (by decide) rfl (fun ls hl => ?_)
                  refine lv_goto (tgt := 40) hx hb dX8_footprintSize_103 (by decide) ?_
                  exact ih40 (i + 1) y5 _ _ ls (by omega) (by omega) (by have e : (i + 1) * C = i * C + j := (by have e2 : j = C := (by omega); rw [e2, Nat.succ_mul]); rw [e]; exact hz') hH hS (lv_sub hl [1, 2, 3, 4, 0] rfl)
                · have c64 : j < C := Nat.lt_of_not_le (fun zq => c64 ((nI_leI (a := C) (b := j) (by omega) (by omega)).mpr zq))
                  refine lv_aload_n hx hb dX8_footprintSize_67 rfl (lv_at hl 0 rfl) ?_
                  refine r_get CF hK hH 20 (Nat.le_of_ble_eq_true rfl) rfl rfl JX8 1 (by decide) K5 rfl dX8_footprintSize_68 ?_
                  refine lv_aload_n hx hb dX8_footprintSize_71 rfl (lv_at hl 0 rfl) ?_
                  refine r_get CF hK hH 20 (Nat.le_of_ble_eq_true rfl) rfl rfl JX8 0 (by decide) K2 rfl dX8_footprintSize_72 ?_
                  refine lv_aload_n hx hb dX8_footprintSize_75 rfl (lv_at hl 1 rfl) ?_
                  refine r_get CF hK hH (8 * 0 + j5) (by omega) (we_s G (by omega) _) rfl JX5 0 (by decide) K6 rfl dX8_footprintSize_76 ?_
                  refine r_top (show (σ (8 * 0 + j5) 0 : Int32) = nI (sq j5).1 from (hL.2.2 j5 (by omega)).1) ?_
                  refine lv_iload hx hb dX8_footprintSize_79 (lv_at hl 2 rfl) ?_
                  refine lv_iload hx hb dX8_footprintSize_81 (lv_at hl 4 rfl) ?_
                  refine lv_iload hx hb dX8_footprintSize_83 (lv_at hl 5 rfl) ?_
                  refine r_cR hS (r_runV (n := 5) (As := [.ref (G.2.1 21), .int (nI (sq j5).1), .int (nI ((sq j5).2.1 + pn * (sq j5).2.2.2)), .int (nI i), .int (nI j)]) (rest := []) CF hK hH (c_X1_sees l G σ (sq j5).1 ((sq j5).2.1 + pn * (sq j5).2.2.2) i j hq.1 (by have := hq.2.2.1; omega) (by omega) (by omega) hh) gX8_footprintSize_X1_sees rfl rfl rfl rfl (by decide +kernel) ⟨⟨Nat.le_of_ble_eq_true rfl, Nat.le_of_ble_eq_true rfl⟩, Nat.le_of_ble_eq_true rfl, Nat.le_of_ble_eq_true rfl⟩ 23 rfl (Nat.le_of_ble_eq_true rfl) rfl rfl rfl hl.1 rfl (Nat.le_of_ble_eq_true rfl) dX8_footprintSize_85) (fun H locs hH hS => ?_)
                  refine r_ifeqB (tgt := 94) hx hb dX8_footprintSize_88 (by decide) (fun c88 => ?_) (fun c88 => ?_)
                  · refine lv_iinc (v := nI (j + 1)) (lv' := [(7, .int (nI (j + 1))), (0, .ref (G.2.1 20)), (3, .ref (G.2.1 (8 * 0 + j5))), (4, .int (nI ((sq j5).2.1 + pn * (sq j5).2.2.2))), (5, .int y5), (6, .int (nI i))]) hx hb dX8_footprintSize_94 hl (k := 5) rfl (nI_1 _) (by decide) rfl (fun ls hl => ?_)
                    refine lv_goto (tgt := 55) hx hb dX8_footprintSize_97 (by decide) ?_
                    exact ih55 (j + 1) y5 _ _ ls (by omega) (by omega) (cntF (p := fpP (σ 22) (cmC σ) (sq j5) pn C) ((fpP_at _ _ _ _ c64).trans c88) hz') hH hS (lv_sub hl [1, 2, 3, 4, 5, 0] rfl)
                  · refine lv_iinc (v := (y5 + (1))) (lv' := [(5, .int (y5 + (1))), (0, .ref (G.2.1 20)), (3, .ref (G.2.1 (8 * 0 + j5))), (4, .int (nI ((sq j5).2.1 + pn * (sq j5).2.2.2))), (6, .int (nI i)), (7, .int (nI j))]) hx hb dX8_footprintSize_91 hl (k := 3) rfl rfl (by decide) rfl (fun ls hl => ?_)
                    refine lv_iinc (v := nI (j + 1)) (lv' := [(7, .int (nI (j + 1))), (5, .int (y5 + (1))), (0, .ref (G.2.1 20)), (3, .ref (G.2.1 (8 * 0 + j5))), (4, .int (nI ((sq j5).2.1 + pn * (sq j5).2.2.2))), (6, .int (nI i))]) hx hb dX8_footprintSize_94 hl (k := 5) rfl (nI_1 _) (by decide) rfl (fun ls hl => ?_)
                    refine lv_goto (tgt := 55) hx hb dX8_footprintSize_97 (by decide) ?_
                    exact ih55 (j + 1) (y5 + (1)) _ _ ls (by omega) (by omega) (cntT (p := fpP (σ 22) (cmC σ) (sq j5) pn C) ((fpP_at _ _ _ _ c64).trans c88) hz') hH hS (lv_sub hl [2, 3, 4, 1, 5, 0] rfl)
            exact lp55 (C + 1) 0 x5 _ _ ls (by omega) (by omega) (by exact hz) hH hS (lv_sub hl [1, 2, 3, 4, 5, 0] rfl)
      exact lp40 (R + 1) 0 (0 : Int32) _ _ ls (by omega) (by omega) (by rw [Nat.zero_mul]; rfl) hH hS (lv_sub hl [4, 3, 2, 1, 0] rfl)
    · have c21 : inB p (phF (sq j5)) = false := c21
      refine lv_bipush (v := (-3)) hx hb dX8_footprintSize_24 (by decide) ?_
      exact r_iret CF hr hlk hH hS dX8_footprintSize_26 ⟨by simp [aFoot, hin5, hN5, c21], rfl⟩

set_option maxRecDepth 100000 in
set_option maxHeartbeats 4000000 in
theorem c_X8_coverage (l : Launch) (G : Gm) (σ : Sg) (R C n : Nat) (sq : Nat → S4) (hA : CA σ R C n sq) (x y : Int32) : Met l yX8_coverage wsX8_coverage (rmO 4 114) (PP G [.ref (G.2.1 20), .int x, .int y] σ) (QI G (RV (aCov R C (σ 22) (cmC σ) n sq x y) σ)) 0 0 (fr G) := by
  refine r_start (cc := cX8_coverage) (maxL := 3) (ret := (some .int)) (by decide) rfl (Nat.le_of_ble_eq_true rfl) ?_
  intro pz ez sz mz below meth cz ls CF hr hlk hK hH hS hl
  have CF : CallFix pz mz cz cX8_coverage 3 sz (List.toArray [.ref (G.2.1 20), .int x, .int y]) wsX8_coverage RX8 := CF
  have hx := CF.1
  have hb := CF.2.1
  have hown := CF.2.2.2.1
  have hts := CF.2.2.2.2
  have hl : lv_has ls 3 [(0, .ref (G.2.1 20)), (1, .int x), (2, .int y)] := hl
  have K1 := hts _ (List.mem_of_getElem? (i := 1) rfl)
  have K2 := hts _ (List.mem_of_getElem? (i := 2) rfl)
  have K3 := hts _ (List.mem_of_getElem? (i := 3) rfl)
  have K4 := hts _ (List.mem_of_getElem? (i := 4) rfl)
  have JX8 : ∀ w ∈ wsX80, w ∈ wsX8_coverage := in_r _ [64, 65, 66, 67, 68, 69, 70] (by decide +kernel)
  obtain ⟨hR, hC, hR3, hR10, hC4, hC16, hh, hL⟩ := hA
  have hn : σ (16 + 0) 0 = nI n := hL.1
  have hn8 := hL.2.1
  refine lv_aload_n hx hb dX8_coverage_0 rfl (lv_at hl 0 rfl) ?_
  refine r_get CF hK hH 20 (Nat.le_of_ble_eq_true rfl) rfl rfl JX8 0 (by decide) K1 rfl dX8_coverage_1 ?_
  refine lv_iload_n hx hb dX8_coverage_4 rfl (lv_at hl 1 rfl) ?_
  refine lv_iload_n hx hb dX8_coverage_5 rfl (lv_at hl 2 rfl) ?_
  refine r_cR hS (r_runV (n := 2) (As := [.int x, .int y]) (rest := []) CF hK hH (c_X7_contains l G σ x y) gX8_coverage_X7_contains rfl rfl rfl rfl (by decide +kernel) ⟨⟨Nat.le_of_ble_eq_true rfl, Nat.le_of_ble_eq_true rfl⟩, Nat.le_of_ble_eq_true rfl, Nat.le_of_ble_eq_true rfl⟩ 21 rfl (Nat.le_of_ble_eq_true rfl) rfl rfl rfl hl.1 rfl (Nat.le_of_ble_eq_true rfl) dX8_coverage_6) (fun H locs hH hS => ?_)
  refine r_top (show (b2i (isC σ x y) : Int32) = b2i (inB x R && inB y C) from (by rw [isC_eq hR hC])) ?_
  refine r_ifneB (tgt := 14) hx hb dX8_coverage_9 (by decide) (fun c9 => ?_) (fun c9 => ?_)
  · obtain ⟨r, c, hr1, hc1, ex, ey, exN, eyN⟩ := inC_of c9 hR10 hC16
    refine lv_aload_n hx hb dX8_coverage_14 rfl (lv_at hl 0 rfl) ?_
    refine r_get CF hK hH 20 (Nat.le_of_ble_eq_true rfl) rfl rfl JX8 3 (by decide) K2 rfl dX8_coverage_15 ?_
    refine lv_aload_n hx hb dX8_coverage_18 rfl (lv_at hl 0 rfl) ?_
    refine r_get CF hK hH 20 (Nat.le_of_ble_eq_true rfl) rfl rfl JX8 0 (by decide) K1 rfl dX8_coverage_19 ?_
    refine lv_aload_n hx hb dX8_coverage_22 rfl (lv_at hl 0 rfl) ?_
    refine r_get CF hK hH 20 (Nat.le_of_ble_eq_true rfl) rfl rfl JX8 1 (by decide) K3 rfl dX8_coverage_23 ?_
    refine lv_iload_n hx hb dX8_coverage_26 rfl (lv_at hl 1 rfl) ?_
    refine r_top (show (x : Int32) = nI r from ex) ?_
    refine lv_iload_n hx hb dX8_coverage_27 rfl (lv_at hl 2 rfl) ?_
    refine r_top (show (y : Int32) = nI c from ey) ?_
    refine lv_ldc (v := 2147483647) hx hb hown K4 dX8_coverage_28 ?_
    refine r_cR hS (r_runV (n := 5) (As := [.ref (G.2.1 21), .ref (G.2.1 23), .int (nI r), .int (nI c), .int (2147483647 : Int32)]) (rest := []) CF hK hH (c_X6_views l G σ 0 (by decide) n sq hL r c 2147483647 (by omega) (by omega) (by omega) hh) gX8_coverage_X6_views rfl rfl rfl rfl (by decide +kernel) ⟨⟨Nat.le_of_ble_eq_true rfl, Nat.le_of_ble_eq_true rfl⟩, Nat.le_of_ble_eq_true rfl, Nat.le_of_ble_eq_true rfl⟩ (16 + 0) rfl (by omega) (we_l G (by decide) _) rfl rfl hl.1 rfl (Nat.le_of_ble_eq_true rfl) dX8_coverage_30) (fun H locs hH hS => ?_)
    exact r_iret CF hr hlk hH hS dX8_coverage_33 ⟨by have := covF_le (σ 22) (cmC σ) sq r c (n := n) (fun i hi => (hL.2.2 i hi).2.2.2.2); rw [Nat.min_eq_left (by omega)]; simp [aCov, c9, exN, eyN], rfl⟩
  · refine lv_iconst (v := (-1)) hx hb dX8_coverage_12 (by decide) ?_
    exact r_iret CF hr hlk hH hS dX8_coverage_13 ⟨by simp [aCov, c9], rfl⟩

set_option maxRecDepth 100000 in
set_option maxHeartbeats 4000000 in
theorem c_X8_gapCount (l : Launch) (G : Gm) (σ : Sg) (R C n : Nat) (sq : Nat → S4) (hA : CA σ R C n sq) (x : Int32) : Met l yX8_gapCount wsX8_gapCount (rmO 4 114) (PP G [.ref (G.2.1 20), .int x] σ) (QI G (RV (aGapc R C (σ 22) (cmC σ) n sq x) σ)) 0 0 (fr G) := by
  refine r_start (cc := cX8_gapCount) (maxL := 5) (ret := (some .int)) (by decide) rfl (Nat.le_of_ble_eq_true rfl) ?_
  intro pz ez sz mz below meth cz ls CF hr hlk hK hH hS hl
  have CF : CallFix pz mz cz cX8_gapCount 5 sz (List.toArray [.ref (G.2.1 20), .int x]) wsX8_gapCount RX8 := CF
  have hx := CF.1
  have hb := CF.2.1
  have hown := CF.2.2.2.1
  have hts := CF.2.2.2.2
  have hl : lv_has ls 5 [(0, .ref (G.2.1 20)), (1, .int x)] := hl
  have K1 := hts _ (List.mem_of_getElem? (i := 1) rfl)
  have K2 := hts _ (List.mem_of_getElem? (i := 2) rfl)
  have K3 := hts _ (List.mem_of_getElem? (i := 3) rfl)
  have K4 := hts _ (List.mem_of_getElem? (i := 4) rfl)
  have K5 := hts _ (List.mem_of_getElem? (i := 5) rfl)
  have JX7 : ∀ w ∈ wsX70, w ∈ wsX8_gapCount := in_r _ [69, 70, 71] (by decide +kernel)
  have JX8 : ∀ w ∈ wsX80, w ∈ wsX8_gapCount := in_r _ [62, 63, 64, 65, 66, 67, 68] (by decide +kernel)
  obtain ⟨hR, hC, hR3, hR10, hC4, hC16, hh, hL⟩ := hA
  have hn : σ (16 + 0) 0 = nI n := hL.1
  have hn8 := hL.2.1
  refine lv_iload_n hx hb dX8_gapCount_0 rfl (lv_at hl 1 rfl) ?_
  refine lv_iconst (v := 1) hx hb dX8_gapCount_1 (by decide) ?_
  refine lv_bipush (v := 9) hx hb dX8_gapCount_2 (by decide) ?_
  refine r_cR hS (r_runS (n := 3) (As := [.int x, .int (1 : Int32), .int (9 : Int32)]) (rest := []) CF hK hH (c_X8_isWithin l G σ x (1 : Int32) (9 : Int32)) gX8_gapCount_X8_isWithin rfl rfl rfl (by decide +kernel) ⟨⟨Nat.le_of_ble_eq_true rfl, Nat.le_of_ble_eq_true rfl⟩, Nat.le_of_ble_eq_true rfl, Nat.le_of_ble_eq_true rfl⟩ rfl hl.1 rfl (Nat.le_of_ble_eq_true rfl) dX8_gapCount_4) (fun H locs hH hS => ?_)
  refine r_ifneB (tgt := 13) hx hb dX8_gapCount_7 (by decide) (fun c7 => ?_) (fun c7 => ?_)
  · obtain ⟨L, hL1, hL9, eL, eLN⟩ := isW_of (a := 1) (b := 9) c7 (by omega) (by omega)
    refine lv_iconst (v := 0) hx hb dX8_gapCount_13 (by decide) ?_
    refine lv_istore_n (lv' := [(2, .int (0 : Int32)), (0, .ref (G.2.1 20)), (1, .int x)]) hx hb dX8_gapCount_14 rfl hl (by decide) rfl (fun ls hl => ?_)
    refine lv_iconst (v := 0) hx hb dX8_gapCount_15 (by decide) ?_
    refine lv_istore_n (lv' := [(3, .int (0 : Int32)), (2, .int (0 : Int32)), (0, .ref (G.2.1 20)), (1, .int x)]) hx hb dX8_gapCount_16 rfl hl (by decide) rfl (fun ls hl => ?_)
    have lp17 : ∀ (fu : Nat) (i : Nat) (x2 : Int32) (H : Heap) (locs : List Loc) (ls : Array Slot), (R + 1 ≤ i + fu) → (i ≤ R) → (x2 = nI (cnt (gapP (σ 22) (cmC σ) sq n C L) (i * C))) → Hp G σ H → va_S (fr G) sz.heap H locs → lv_has ls 5 [(0, .ref (G.2.1 20)), (1, .int x), (2, .int x2), (3, .int (nI i))] → W pz l ez (rmO 4 114) sz mz (List.toArray [.ref (G.2.1 20), .int x]) below meth cz H locs 0 0 (MQ below (QI G (RV (aGapc R C (σ 22) (cmC σ) n sq x) σ)) (List.toArray [.ref (G.2.1 20), .int x]) sz 0 0 (fr G)) (F0 mz 17 ls []) := by
      intro fu
      induction fu with
      | zero => intros; omega
      | succ fu ih17 =>
        intro i x2 H locs ls hf hi hz hH hS hl
        refine lv_iload_n hx hb dX8_gapCount_17 rfl (lv_at hl 3 rfl) ?_
        refine lv_aload_n hx hb dX8_gapCount_18 rfl (lv_at hl 0 rfl) ?_
        refine r_get CF hK hH 20 (Nat.le_of_ble_eq_true rfl) rfl rfl JX8 0 (by decide) K1 rfl dX8_gapCount_19 ?_
        refine r_get CF hK hH 21 (Nat.le_of_ble_eq_true rfl) rfl rfl JX7 0 (by decide) K2 rfl dX8_gapCount_22 ?_
        refine r_top (show (σ 21 0 : Int32) = nI R from hR) ?_
        refine lv_icmp_ge (tgt := 81) hx hb dX8_gapCount_25 (by decide) (fun c25 => ?_) (fun c25 => ?_)
        · have c25 : R ≤ i := (nI_leI (a := R) (b := i) (by omega) (by omega)).mp c25
          refine lv_iload_n hx hb dX8_gapCount_81 rfl (lv_at hl 2 rfl) ?_
          exact r_iret CF hr hlk hH hS dX8_gapCount_82 ⟨by have e : i = R := (by omega); subst e; simp [aGapc, c7, eLN, hz], rfl⟩
        · have c25 : i < R := Nat.lt_of_not_le (fun zq => c25 ((nI_leI (a := R) (b := i) (by omega) (by omega)).mpr zq))
          refine lv_iconst (v := 0) hx hb dX8_gapCount_28 (by decide) ?_
          refine lv_istore (lv' := [(4, .int (0 : Int32)), (0, .ref (G.2.1 20)), (1, .int x), (2, .int x2), (3, .int (nI i))]) hx hb dX8_gapCount_29 hl (by decide) rfl (fun ls hl => ?_)
          have lp31 : ∀ (fv : Nat) (j : Nat) (y2 : Int32) (H : Heap) (locs : List Loc) (ls : Array Slot), (C + 1 ≤ j + fv) → (j ≤ C) → (y2 = nI (cnt (gapP (σ 22) (cmC σ) sq n C L) ((i * C + j)))) → Hp G σ H → va_S (fr G) sz.heap H locs → lv_has ls 5 [(0, .ref (G.2.1 20)), (1, .int x), (2, .int y2), (3, .int (nI i)), (4, .int (nI j))] → W pz l ez (rmO 4 114) sz mz (List.toArray [.ref (G.2.1 20), .int x]) below meth cz H locs 0 0 (MQ below (QI G (RV (aGapc R C (σ 22) (cmC σ) n sq x) σ)) (List.toArray [.ref (G.2.1 20), .int x]) sz 0 0 (fr G)) (F0 mz 31 ls []) := by
            intro fv
            induction fv with
            | zero => intros; omega
            | succ fv ih31 =>
              intro j y2 H locs ls hg hj hz' hH hS hl
              refine lv_iload hx hb dX8_gapCount_31 (lv_at hl 4 rfl) ?_
              refine lv_aload_n hx hb dX8_gapCount_33 rfl (lv_at hl 0 rfl) ?_
              refine r_get CF hK hH 20 (Nat.le_of_ble_eq_true rfl) rfl rfl JX8 0 (by decide) K1 rfl dX8_gapCount_34 ?_
              refine r_get CF hK hH 21 (Nat.le_of_ble_eq_true rfl) rfl rfl JX7 1 (by decide) K3 rfl dX8_gapCount_37 ?_
              refine r_top (show (σ 21 1 : Int32) = nI C from hC) ?_
              refine lv_icmp_ge (tgt := 75) hx hb dX8_gapCount_40 (by decide) (fun c40 => ?_) (fun c40 => ?_)
              · have c40 : C ≤ j := (nI_leI (a := C) (b := j) (by omega) (by omega)).mp c40
                refine lv_iinc (v := nI (i + 1)) (lv' := [(3, .int (nI (i + 1))), (0, .ref (G.2.1 20)), (1, .int x), (2, .int y2), (4, .int (nI j))]) hx hb dX8_gapCount_75 hl (k := 3) rfl (nI_1 _) (by decide) rfl (fun ls hl => ?_)
                refine lv_goto (tgt := 17) hx hb dX8_gapCount_78 (by decide) ?_
                exact ih17 (i + 1) y2 _ _ ls (by omega) (by omega) (by have e : (i + 1) * C = i * C + j := (by have e2 : j = C := (by omega); rw [e2, Nat.succ_mul]); rw [e]; exact hz') hH hS (lv_sub hl [1, 2, 3, 0] rfl)
              · have c40 : j < C := Nat.lt_of_not_le (fun zq => c40 ((nI_leI (a := C) (b := j) (by omega) (by omega)).mpr zq))
                refine lv_aload_n hx hb dX8_gapCount_43 rfl (lv_at hl 0 rfl) ?_
                refine r_get CF hK hH 20 (Nat.le_of_ble_eq_true rfl) rfl rfl JX8 3 (by decide) K4 rfl dX8_gapCount_44 ?_
                refine lv_aload_n hx hb dX8_gapCount_47 rfl (lv_at hl 0 rfl) ?_
                refine r_get CF hK hH 20 (Nat.le_of_ble_eq_true rfl) rfl rfl JX8 0 (by decide) K1 rfl dX8_gapCount_48 ?_
                refine lv_aload_n hx hb dX8_gapCount_51 rfl (lv_at hl 0 rfl) ?_
                refine r_get CF hK hH 20 (Nat.le_of_ble_eq_true rfl) rfl rfl JX8 1 (by decide) K5 rfl dX8_gapCount_52 ?_
                refine lv_iload_n hx hb dX8_gapCount_55 rfl (lv_at hl 3 rfl) ?_
                refine lv_iload hx hb dX8_gapCount_56 (lv_at hl 4 rfl) ?_
                refine lv_iload_n hx hb dX8_gapCount_58 rfl (lv_at hl 1 rfl) ?_
                refine r_top (show (x : Int32) = nI L from eL) ?_
                refine r_cR hS (r_runV (n := 5) (As := [.ref (G.2.1 21), .ref (G.2.1 23), .int (nI i), .int (nI j), .int (nI L)]) (rest := []) CF hK hH (c_X6_views l G σ 0 (by decide) n sq hL i j L (by omega) (by omega) (by omega) hh) gX8_gapCount_X6_views rfl rfl rfl rfl (by decide +kernel) ⟨⟨Nat.le_of_ble_eq_true rfl, Nat.le_of_ble_eq_true rfl⟩, Nat.le_of_ble_eq_true rfl, Nat.le_of_ble_eq_true rfl⟩ (16 + 0) rfl (by omega) (we_l G (by decide) _) rfl rfl hl.1 rfl (Nat.le_of_ble_eq_true rfl) dX8_gapCount_59) (fun H locs hH hS => ?_)
                refine lv_iload_n hx hb dX8_gapCount_62 rfl (lv_at hl 1 rfl) ?_
                refine r_top (show (x : Int32) = nI L from eL) ?_
                refine lv_icmp_ge (tgt := 69) hx hb dX8_gapCount_63 (by decide) (fun c63 => ?_) (fun c63 => ?_)
                · have c63 : L ≤ min (covF (σ 22) (cmC σ) sq i j n) L := (nI_leI (a := L) (by omega) (by omega)).mp c63
                  have gp : gapP (σ 22) (cmC σ) sq n C L (i * C + j) = false := by rw [gapP_at _ _ _ _ _ (by omega)]; simp; omega
                  refine lv_iinc (v := nI (j + 1)) (lv' := [(4, .int (nI (j + 1))), (0, .ref (G.2.1 20)), (1, .int x), (2, .int y2), (3, .int (nI i))]) hx hb dX8_gapCount_69 hl (k := 4) rfl (nI_1 _) (by decide) rfl (fun ls hl => ?_)
                  refine lv_goto (tgt := 31) hx hb dX8_gapCount_72 (by decide) ?_
                  exact ih31 (j + 1) y2 _ _ ls (by omega) (by omega) (cntF (p := gapP (σ 22) (cmC σ) sq n C L) gp hz') hH hS (lv_sub hl [1, 2, 3, 4, 0] rfl)
                · have c63 : min (covF (σ 22) (cmC σ) sq i j n) L < L := Nat.lt_of_not_le (fun zq => c63 (nI_le zq (by omega)))
                  have gp : gapP (σ 22) (cmC σ) sq n C L (i * C + j) = true := by rw [gapP_at _ _ _ _ _ (by omega)]; simp; omega
                  refine lv_iinc (v := (y2 + (1))) (lv' := [(2, .int (y2 + (1))), (0, .ref (G.2.1 20)), (1, .int x), (3, .int (nI i)), (4, .int (nI j))]) hx hb dX8_gapCount_66 hl (k := 2) rfl rfl (by decide) rfl (fun ls hl => ?_)
                  refine lv_iinc (v := nI (j + 1)) (lv' := [(4, .int (nI (j + 1))), (2, .int (y2 + (1))), (0, .ref (G.2.1 20)), (1, .int x), (3, .int (nI i))]) hx hb dX8_gapCount_69 hl (k := 4) rfl (nI_1 _) (by decide) rfl (fun ls hl => ?_)
                  refine lv_goto (tgt := 31) hx hb dX8_gapCount_72 (by decide) ?_
                  exact ih31 (j + 1) (y2 + (1)) _ _ ls (by omega) (by omega) (cntT (p := gapP (σ 22) (cmC σ) sq n C L) gp hz') hH hS (lv_sub hl [2, 3, 1, 4, 0] rfl)
          exact lp31 (C + 1) 0 x2 _ _ ls (by omega) (by omega) (by exact hz) hH hS (lv_sub hl [1, 2, 3, 4, 0] rfl)
    exact lp17 (R + 1) 0 (0 : Int32) _ _ ls (by omega) (by omega) (by rw [Nat.zero_mul]; rfl) hH hS (lv_sub hl [2, 3, 1, 0] rfl)
  · refine lv_bipush (v := (-4)) hx hb dX8_gapCount_10 (by decide) ?_
    exact r_iret CF hr hlk hH hS dX8_gapCount_12 ⟨by simp [aGapc, c7], rfl⟩

theorem nth_n {p : Nat → Bool} {k a : Nat} (h : nthF p k a = none) (hp : p a = false ∨ ¬ cnt p a = k) : nthF p k (a + 1) = none := by
  simp only [nthF, h]
  rcases hp with hp | hp <;> simp [hp]
theorem nth_s {p : Nat → Bool} {k a : Nat} (h : nthF p k a = none) (hp : p a = true) (hk : cnt p a = k) : nthF p k (a + 1) = some a := by
  simp only [nthF, h]
  simp [hp, hk]
theorem cnt_lt31 (p : Nat → Bool) {i R C : Nat} (j : Nat) (hi : i ≤ R) (hj : j ≤ C) (hR : R ≤ 10) (hC : C ≤ 16) : cnt p (i * C + j) < 2 ^ 31 := by
  have h1 := cnt_le p (i * C + j)
  have h2 : i * C ≤ 10 * 16 := Nat.mul_le_mul (by omega) hC
  omega

set_option maxRecDepth 100000 in
set_option maxHeartbeats 4000000 in
theorem c_X8_gapAt (l : Launch) (G : Gm) (σ : Sg) (R C n : Nat) (sq : Nat → S4) (hA : CA σ R C n sq) (x k : Int32) : Met l yX8_gapAt wsX8_gapAt (rmO 4 114) (PP G [.ref (G.2.1 20), .int x, .int k] σ) (QI G (RV (aGapat R C (σ 22) (cmC σ) n sq x k) σ)) 0 0 (fr G) := by
  refine r_start (cc := cX8_gapAt) (maxL := 6) (ret := (some .int)) (by decide) rfl (Nat.le_of_ble_eq_true rfl) ?_
  intro pz ez sz mz below meth cz ls CF hr hlk hK hH hS hl
  have CF : CallFix pz mz cz cX8_gapAt 6 sz (List.toArray [.ref (G.2.1 20), .int x, .int k]) wsX8_gapAt RX8 := CF
  have hx := CF.1
  have hb := CF.2.1
  have hown := CF.2.2.2.1
  have hts := CF.2.2.2.2
  have hl : lv_has ls 6 [(0, .ref (G.2.1 20)), (1, .int x), (2, .int k)] := hl
  have K1 := hts _ (List.mem_of_getElem? (i := 1) rfl)
  have K2 := hts _ (List.mem_of_getElem? (i := 2) rfl)
  have K3 := hts _ (List.mem_of_getElem? (i := 3) rfl)
  have K4 := hts _ (List.mem_of_getElem? (i := 4) rfl)
  have K5 := hts _ (List.mem_of_getElem? (i := 5) rfl)
  have JX7 : ∀ w ∈ wsX70, w ∈ wsX8_gapAt := in_r _ [69, 70, 71] (by decide +kernel)
  have JX8 : ∀ w ∈ wsX80, w ∈ wsX8_gapAt := in_r _ [62, 63, 64, 65, 66, 67, 68] (by decide +kernel)
  obtain ⟨hR, hC, hR3, hR10, hC4, hC16, hh, hL⟩ := hA
  have hn : σ (16 + 0) 0 = nI n := hL.1
  have hn8 := hL.2.1
  refine lv_iload_n hx hb dX8_gapAt_0 rfl (lv_at hl 1 rfl) ?_
  refine lv_iconst (v := 1) hx hb dX8_gapAt_1 (by decide) ?_
  refine lv_bipush (v := 9) hx hb dX8_gapAt_2 (by decide) ?_
  refine r_cR hS (r_runS (n := 3) (As := [.int x, .int (1 : Int32), .int (9 : Int32)]) (rest := []) CF hK hH (c_X8_isWithin l G σ x (1 : Int32) (9 : Int32)) gX8_gapAt_X8_isWithin rfl rfl rfl (by decide +kernel) ⟨⟨Nat.le_of_ble_eq_true rfl, Nat.le_of_ble_eq_true rfl⟩, Nat.le_of_ble_eq_true rfl, Nat.le_of_ble_eq_true rfl⟩ rfl hl.1 rfl (Nat.le_of_ble_eq_true rfl) dX8_gapAt_4) (fun H locs hH hS => ?_)
  refine r_ifeqB (tgt := 14) hx hb dX8_gapAt_7 (by decide) (fun c7 => ?_) (fun c7 => ?_)
  · refine lv_bipush (v := (-4)) hx hb dX8_gapAt_14 (by decide) ?_
    exact r_iret CF hr hlk hH hS dX8_gapAt_16 ⟨by simp [aGapat, c7], rfl⟩
  · obtain ⟨L, hL1, hL9, eL, eLN⟩ := isW_of (a := 1) (b := 9) c7 (by omega) (by omega)
    refine lv_iload_n hx hb dX8_gapAt_10 rfl (lv_at hl 2 rfl) ?_
    refine lv_if_ge (tgt := 17) hx hb dX8_gapAt_11 (by decide) (fun c11 => ?_) (fun c11 => ?_)
    · have hk0 : ¬ k < 0 := (by grind)
      obtain ⟨kn, hkn, ek⟩ := nI_of hk0
      have ekN := N_of ek hkn
      refine lv_iconst (v := 0) hx hb dX8_gapAt_17 (by decide) ?_
      refine lv_istore_n (lv' := [(3, .int (0 : Int32)), (0, .ref (G.2.1 20)), (1, .int x), (2, .int k)]) hx hb dX8_gapAt_18 rfl hl (by decide) rfl (fun ls hl => ?_)
      refine lv_iconst (v := 0) hx hb dX8_gapAt_19 (by decide) ?_
      refine lv_istore (lv' := [(4, .int (0 : Int32)), (3, .int (0 : Int32)), (0, .ref (G.2.1 20)), (1, .int x), (2, .int k)]) hx hb dX8_gapAt_20 hl (by decide) rfl (fun ls hl => ?_)
      have lp22 : ∀ (fu : Nat) (i : Nat) (x3 : Int32) (H : Heap) (locs : List Loc) (ls : Array Slot), (R + 1 ≤ i + fu) → (i ≤ R) → (x3 = nI (cnt (gapP (σ 22) (cmC σ) sq n C L) (i * C))) → (nthF (gapP (σ 22) (cmC σ) sq n C L) kn (i * C) = none) → Hp G σ H → va_S (fr G) sz.heap H locs → lv_has ls 6 [(0, .ref (G.2.1 20)), (1, .int x), (2, .int k), (3, .int x3), (4, .int (nI i))] → W pz l ez (rmO 4 114) sz mz (List.toArray [.ref (G.2.1 20), .int x, .int k]) below meth cz H locs 0 0 (MQ below (QI G (RV (aGapat R C (σ 22) (cmC σ) n sq x k) σ)) (List.toArray [.ref (G.2.1 20), .int x, .int k]) sz 0 0 (fr G)) (F0 mz 22 ls []) := by
        intro fu
        induction fu with
        | zero => intros; omega
        | succ fu ih22 =>
          intro i x3 H locs ls hf hi hz ht hH hS hl
          refine lv_iload hx hb dX8_gapAt_22 (lv_at hl 4 rfl) ?_
          refine lv_aload_n hx hb dX8_gapAt_24 rfl (lv_at hl 0 rfl) ?_
          refine r_get CF hK hH 20 (Nat.le_of_ble_eq_true rfl) rfl rfl JX8 0 (by decide) K1 rfl dX8_gapAt_25 ?_
          refine r_get CF hK hH 21 (Nat.le_of_ble_eq_true rfl) rfl rfl JX7 0 (by decide) K2 rfl dX8_gapAt_28 ?_
          refine r_top (show (σ 21 0 : Int32) = nI R from hR) ?_
          refine lv_icmp_ge (tgt := 102) hx hb dX8_gapAt_31 (by decide) (fun c31 => ?_) (fun c31 => ?_)
          · have c31 : R ≤ i := (nI_leI (a := R) (b := i) (by omega) (by omega)).mp c31
            refine lv_bipush (v := (-6)) hx hb dX8_gapAt_102 (by decide) ?_
            exact r_iret CF hr hlk hH hS dX8_gapAt_104 ⟨by have e : i = R := (by omega); subst e; simp [aGapat, c7, hk0, eLN, ekN, ht], rfl⟩
          · have c31 : i < R := Nat.lt_of_not_le (fun zq => c31 ((nI_leI (a := R) (b := i) (by omega) (by omega)).mpr zq))
            refine lv_iconst (v := 0) hx hb dX8_gapAt_34 (by decide) ?_
            refine lv_istore (lv' := [(5, .int (0 : Int32)), (0, .ref (G.2.1 20)), (1, .int x), (2, .int k), (3, .int x3), (4, .int (nI i))]) hx hb dX8_gapAt_35 hl (by decide) rfl (fun ls hl => ?_)
            have lp37 : ∀ (fv : Nat) (j : Nat) (y3 : Int32) (H : Heap) (locs : List Loc) (ls : Array Slot), (C + 1 ≤ j + fv) → (j ≤ C) → (y3 = nI (cnt (gapP (σ 22) (cmC σ) sq n C L) ((i * C + j)))) → (nthF (gapP (σ 22) (cmC σ) sq n C L) kn ((i * C + j)) = none) → Hp G σ H → va_S (fr G) sz.heap H locs → lv_has ls 6 [(0, .ref (G.2.1 20)), (1, .int x), (2, .int k), (3, .int y3), (4, .int (nI i)), (5, .int (nI j))] → W pz l ez (rmO 4 114) sz mz (List.toArray [.ref (G.2.1 20), .int x, .int k]) below meth cz H locs 0 0 (MQ below (QI G (RV (aGapat R C (σ 22) (cmC σ) n sq x k) σ)) (List.toArray [.ref (G.2.1 20), .int x, .int k]) sz 0 0 (fr G)) (F0 mz 37 ls []) := by
              intro fv
              induction fv with
              | zero => intros; omega
              | succ fv ih37 =>
                intro j y3 H locs ls hg hj hz' ht' hH hS hl
                refine lv_iload hx hb dX8_gapAt_37 (lv_at hl 5 rfl) ?_
                refine lv_aload_n hx hb dX8_gapAt_39 rfl (lv_at hl 0 rfl) ?_
                refine r_get CF hK hH 20 (Nat.le_of_ble_eq_true rfl) rfl rfl JX8 0 (by decide) K1 rfl dX8_gapAt_40 ?_
                refine r_get CF hK hH 21 (Nat.le_of_ble_eq_true rfl) rfl rfl JX7 1 (by decide) K3 rfl dX8_gapAt_43 ?_
                refine r_top (show (σ 21 1 : Int32) = nI C from hC) ?_
                refine lv_icmp_ge (tgt := 96) hx hb dX8_gapAt_46 (by decide) (fun c46 => ?_) (fun c46 => ?_)
                · have c46 : C ≤ j := (nI_leI (a := C) (b := j) (by omega) (by omega)).mp c46
                  refine lv_iinc (v := nI (i + 1)) (lv' := [(4, .int (nI (i + 1))), (0, .ref (G.2.1 20)), (1, .int x), (2, .int k), (3, .int y3), (5, .int (nI j))]) hx hb dX8_gapAt_96 hl (k := 4) rfl (nI_1 _) (by decide) rfl (fun ls hl => ?_)
                  refine lv_goto (tgt := 22) hx hb dX8_gapAt_99 (by decide) ?_
                  exact ih22 (i + 1) y3 _ _ ls (by omega) (by omega) (by have e : (i + 1) * C = i * C + j := (by have e2 : j = C := (by omega); rw [e2, Nat.succ_mul]); rw [e]; exact hz') (by have e : (i + 1) * C = i * C + j := (by have e2 : j = C := (by omega); rw [e2, Nat.succ_mul]); rw [e]; exact ht') hH hS (lv_sub hl [1, 2, 3, 4, 0] rfl)
                · have c46 : j < C := Nat.lt_of_not_le (fun zq => c46 ((nI_leI (a := C) (b := j) (by omega) (by omega)).mpr zq))
                  refine lv_aload_n hx hb dX8_gapAt_49 rfl (lv_at hl 0 rfl) ?_
                  refine r_get CF hK hH 20 (Nat.le_of_ble_eq_true rfl) rfl rfl JX8 3 (by decide) K4 rfl dX8_gapAt_50 ?_
                  refine lv_aload_n hx hb dX8_gapAt_53 rfl (lv_at hl 0 rfl) ?_
                  refine r_get CF hK hH 20 (Nat.le_of_ble_eq_true rfl) rfl rfl JX8 0 (by decide) K1 rfl dX8_gapAt_54 ?_
                  refine lv_aload_n hx hb dX8_gapAt_57 rfl (lv_at hl 0 rfl) ?_
                  refine r_get CF hK hH 20 (Nat.le_of_ble_eq_true rfl) rfl rfl JX8 1 (by decide) K5 rfl dX8_gapAt_58 ?_
                  refine lv_iload hx hb dX8_gapAt_61 (lv_at hl 4 rfl) ?_
                  refine lv_iload hx hb dX8_gapAt_63 (lv_at hl 5 rfl) ?_
                  refine lv_iload_n hx hb dX8_gapAt_65 rfl (lv_at hl 1 rfl) ?_
                  refine r_top (show (x : Int32) = nI L from eL) ?_
                  refine r_cR hS (r_runV (n := 5) (As := [.ref (G.2.1 21), .ref (G.2.1 23), .int (nI i), .int (nI j), .int (nI L)]) (rest := []) CF hK hH (c_X6_views l G σ 0 (by decide) n sq hL i j L (by omega) (by omega) (by omega) hh) gX8_gapAt_X6_views rfl rfl rfl rfl (by decide +kernel) ⟨⟨Nat.le_of_ble_eq_true rfl, Nat.le_of_ble_eq_true rfl⟩, Nat.le_of_ble_eq_true rfl, Nat.le_of_ble_eq_true rfl⟩ (16 + 0) rfl (by omega) (we_l G (by decide) _) rfl rfl hl.1 rfl (Nat.le_of_ble_eq_true rfl) dX8_gapAt_66) (fun H locs hH hS => ?_)
                  refine lv_iload_n hx hb dX8_gapAt_69 rfl (lv_at hl 1 rfl) ?_
                  refine r_top (show (x : Int32) = nI L from eL) ?_
                  refine lv_icmp_ge (tgt := 90) hx hb dX8_gapAt_70 (by decide) (fun c70 => ?_) (fun c70 => ?_)
                  · have c70 : L ≤ min (covF (σ 22) (cmC σ) sq i j n) L := (nI_leI (a := L) (by omega) (by omega)).mp c70
                    have gp : gapP (σ 22) (cmC σ) sq n C L (i * C + j) = false := by rw [gapP_at _ _ _ _ _ (by omega)]; simp; omega
                    refine lv_iinc (v := nI (j + 1)) (lv' := [(5, .int (nI (j + 1))), (0, .ref (G.2.1 20)), (1, .int x), (2, .int k), (3, .int y3), (4, .int (nI i))]) hx hb dX8_gapAt_90 hl (k := 5) rfl (nI_1 _) (by decide) rfl (fun ls hl => ?_)
                    refine lv_goto (tgt := 37) hx hb dX8_gapAt_93 (by decide) ?_
                    exact ih37 (j + 1) y3 _ _ ls (by omega) (by omega) (cntF (p := gapP (σ 22) (cmC σ) sq n C L) gp hz') (nth_n ht' (Or.inl gp)) hH hS (lv_sub hl [1, 2, 3, 4, 5, 0] rfl)
                  · have c70 : min (covF (σ 22) (cmC σ) sq i j n) L < L := Nat.lt_of_not_le (fun zq => c70 (nI_le zq (by omega)))
                    have gp : gapP (σ 22) (cmC σ) sq n C L (i * C + j) = true := by rw [gapP_at _ _ _ _ _ (by omega)]; simp; omega
                    refine lv_iload_n hx hb dX8_gapAt_73 rfl (lv_at hl 3 rfl) ?_
                    refine lv_iload_n hx hb dX8_gapAt_74 rfl (lv_at hl 2 rfl) ?_
                    refine lv_icmp_ne (tgt := 87) hx hb dX8_gapAt_75 (by decide) (fun c75 => ?_) (fun c75 => ?_)
                    · have c75 : ¬ cnt (gapP (σ 22) (cmC σ) sq n C L) (i * C + j) = kn := fun zq => c75 (by rw [hz', ek, zq])
                      refine lv_iinc (v := (y3 + (1))) (lv' := [(3, .int (y3 + (1))), (0, .ref (G.2.1 20)), (1, .int x), (2, .int k), (4, .int (nI i)), (5, .int (nI j))]) hx hb dX8_gapAt_87 hl (k := 3) rfl rfl (by decide) rfl (fun ls hl => ?_)
                      refine lv_iinc (v := nI (j + 1)) (lv' := [(5, .int (nI (j + 1))), (3, .int (y3 + (1))), (0, .ref (G.2.1 20)), (1, .int x), (2, .int k), (4, .int (nI i))]) hx hb dX8_gapAt_90 hl (k := 5) rfl (nI_1 _) (by decide) rfl (fun ls hl => ?_)
                      refine lv_goto (tgt := 37) hx hb dX8_gapAt_93 (by decide) ?_
                      exact ih37 (j + 1) (y3 + (1)) _ _ ls (by omega) (by omega) (cntT (p := gapP (σ 22) (cmC σ) sq n C L) gp hz') (nth_n ht' (Or.inr c75)) hH hS (lv_sub hl [2, 3, 4, 1, 5, 0] rfl)
                    · have c75 : cnt (gapP (σ 22) (cmC σ) sq n C L) (i * C + j) = kn := (nI_eq (cnt_lt31 _ j hi hj hR10 hC16) hkn).mp (by rw [← hz', ← ek]; exact c75)
                      refine lv_bipush (v := 100) hx hb dX8_gapAt_78 (by decide) ?_
                      refine lv_iload hx hb dX8_gapAt_80 (lv_at hl 4 rfl) ?_
                      refine lv_imul hx hb dX8_gapAt_82 ?_
                      refine lv_iload hx hb dX8_gapAt_83 (lv_at hl 5 rfl) ?_
                      refine lv_iadd hx hb dX8_gapAt_85 ?_
                      refine r_top (show ((((100 : Int32) * (nI i)) + (nI j)) : Int32) = nI (100 * i + j) from (by rw [show (100 : Int32) = nI 100 from rfl, pk_mul, nI_add])) ?_
                      exact r_iret CF hr hlk hH hS dX8_gapAt_86 ⟨by have q := nth_stop (nth_s ht' gp c75) (N := R * C) (lt_mul c31 c46); simp [aGapat, c7, hk0, eLN, ekN, q, dm1 c46, dm2 c46], rfl⟩
            exact lp37 (C + 1) 0 x3 _ _ ls (by omega) (by omega) (by exact hz) (by exact ht) hH hS (lv_sub hl [1, 2, 3, 4, 5, 0] rfl)
      exact lp22 (R + 1) 0 (0 : Int32) _ _ ls (by omega) (by omega) (by rw [Nat.zero_mul]; rfl) (by rw [Nat.zero_mul]; rfl) hH hS (lv_sub hl [2, 3, 4, 1, 0] rfl)
    · refine lv_bipush (v := (-4)) hx hb dX8_gapAt_14 (by decide) ?_
      exact r_iret CF hr hlk hH hS dX8_gapAt_16 ⟨by have q : k < 0 := (by grind); simp [aGapat, q], rfl⟩
end
