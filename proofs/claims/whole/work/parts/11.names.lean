/-! NAMES, by program (wip/whole/names.py): classes, methods, words, the store's layout -/
def R_rp : String := "RoundPlans"
def T_rp : u_T := fun k => match k with
  | 0 => ("RoundPlans", "told", "LRoundPlans$Told;", true)
  | 1 => ("RoundPlans", "rounds", "LRoundPlans$Rounds;", true)
  | 2 => ("RoundPlans", "plans", "LRoundPlans$Plans;", true)
  | _ => ("RoundPlans", "found", "LRoundPlans$Found;", true)
def ty_rp : Nat → FieldType := fun k => match k with
  | 0 => .object "RoundPlans$Told"
  | 1 => .object "RoundPlans$Rounds"
  | 2 => .object "RoundPlans$Plans"
  | _ => .object "RoundPlans$Found"
theorem nm_rp : ∀ a, a < 4 → ∀ b, b < 4 → a ≠ b → (T_rp a).2.1 ≠ (T_rp b).2.1 := by decide +kernel
theorem tk_rp : ∀ k, k < 4 → parseFieldDescriptor (T_rp k).2.2.1 = some (ty_rp k) := by decide +kernel
set_option maxRecDepth 100000 in
theorem in_rp : ∀ x ∈ u_ws R_rp T_rp 4, x ∈ zT := by
  have h : ∀ x ∈ u_ws R_rp T_rp 4, x ∈ tables_1 ∧ goodWord x = true := by decide +kernel
  exact fun x hx => List.mem_filter.mpr ⟨List.mem_append_right _ (h x hx).1, (h x hx).2⟩
def R_td : String := "RoundPlans$Told"
def T_td : u_T := fun k => match k with
  | 0 => ("RoundPlans$Told", "stops", "I", false)
  | 1 => ("RoundPlans$Told", "vehicles", "I", false)
  | 2 => ("RoundPlans$Told", "kilograms", "[I", true)
  | 3 => ("RoundPlans$Told", "first", "[I", true)
  | 4 => ("RoundPlans$Told", "last", "[I", true)
  | 5 => ("RoundPlans$Told", "service", "[I", true)
  | 6 => ("RoundPlans$Told", "penalties", "[J", true)
  | 7 => ("RoundPlans$Told", "fixedTo", "[I", true)
  | 8 => ("RoundPlans$Told", "apartFrom", "[I", true)
  | 9 => ("RoundPlans$Told", "ahead", "[I", true)
  | 10 => ("RoundPlans$Told", "behind", "[I", true)
  | 11 => ("RoundPlans$Told", "reached", "[I", true)
  | 12 => ("RoundPlans$Told", "most", "[I", true)
  | 13 => ("RoundPlans$Told", "leaving", "[I", true)
  | 14 => ("RoundPlans$Told", "due", "[I", true)
  | 15 => ("RoundPlans$Told", "rate", "[I", true)
  | _ => ("RoundPlans$Told", "ways", "[I", true)
def ty_td : Nat → FieldType := fun k => match k with
  | 0 => .int
  | 1 => .int
  | 2 => .array .int
  | 3 => .array .int
  | 4 => .array .int
  | 5 => .array .int
  | 6 => .array .long
  | 7 => .array .int
  | 8 => .array .int
  | 9 => .array .int
  | 10 => .array .int
  | 11 => .array .int
  | 12 => .array .int
  | 13 => .array .int
  | 14 => .array .int
  | 15 => .array .int
  | _ => .array .int
theorem nm_td : ∀ a, a < 17 → ∀ b, b < 17 → a ≠ b → (T_td a).2.1 ≠ (T_td b).2.1 := by decide +kernel
theorem tk_td : ∀ k, k < 17 → parseFieldDescriptor (T_td k).2.2.1 = some (ty_td k) := by decide +kernel
set_option maxRecDepth 100000 in
theorem in_td : ∀ x ∈ u_ws R_td T_td 17, x ∈ zT := by
  have h : ∀ x ∈ u_ws R_td T_td 17, x ∈ tables_1 ∧ goodWord x = true := by decide +kernel
  exact fun x hx => List.mem_filter.mpr ⟨List.mem_append_right _ (h x hx).1, (h x hx).2⟩
def R_rd : String := "RoundPlans$Rounds"
def T_rd : u_T := fun k => match k with
  | 0 => ("RoundPlans$Rounds", "told", "LRoundPlans$Told;", true)
  | 1 => ("RoundPlans$Rounds", "backs", "[I", true)
  | 2 => ("RoundPlans$Rounds", "ready", "[I", true)
  | _ => ("RoundPlans$Rounds", "latest", "[I", true)
def ty_rd : Nat → FieldType := fun k => match k with
  | 0 => .object "RoundPlans$Told"
  | 1 => .array .int
  | 2 => .array .int
  | _ => .array .int
theorem nm_rd : ∀ a, a < 4 → ∀ b, b < 4 → a ≠ b → (T_rd a).2.1 ≠ (T_rd b).2.1 := by decide +kernel
theorem tk_rd : ∀ k, k < 4 → parseFieldDescriptor (T_rd k).2.2.1 = some (ty_rd k) := by decide +kernel
set_option maxRecDepth 100000 in
theorem in_rd : ∀ x ∈ u_ws R_rd T_rd 4, x ∈ zT := by
  have h : ∀ x ∈ u_ws R_rd T_rd 4, x ∈ tables_1 ∧ goodWord x = true := by decide +kernel
  exact fun x hx => List.mem_filter.mpr ⟨List.mem_append_right _ (h x hx).1, (h x hx).2⟩
def R_pl : String := "RoundPlans$Plans"
def T_pl : u_T := fun k => match k with
  | 0 => ("RoundPlans$Plans", "told", "LRoundPlans$Told;", true)
  | 1 => ("RoundPlans$Plans", "rounds", "LRoundPlans$Rounds;", true)
  | 2 => ("RoundPlans$Plans", "prices", "[J", true)
  | 3 => ("RoundPlans$Plans", "skips", "[J", true)
  | _ => ("RoundPlans$Plans", "least", "[J", true)
def ty_pl : Nat → FieldType := fun k => match k with
  | 0 => .object "RoundPlans$Told"
  | 1 => .object "RoundPlans$Rounds"
  | 2 => .array .long
  | 3 => .array .long
  | _ => .array .long
theorem nm_pl : ∀ a, a < 5 → ∀ b, b < 5 → a ≠ b → (T_pl a).2.1 ≠ (T_pl b).2.1 := by decide +kernel
theorem tk_pl : ∀ k, k < 5 → parseFieldDescriptor (T_pl k).2.2.1 = some (ty_pl k) := by decide +kernel
set_option maxRecDepth 100000 in
theorem in_pl : ∀ x ∈ u_ws R_pl T_pl 5, x ∈ zT := by
  have h : ∀ x ∈ u_ws R_pl T_pl 5, x ∈ tables_1 ∧ goodWord x = true := by decide +kernel
  exact fun x hx => List.mem_filter.mpr ⟨List.mem_append_right _ (h x hx).1, (h x hx).2⟩
def R_fd : String := "RoundPlans$Found"
def T_fd : u_T := fun k => match k with
  | 0 => ("RoundPlans$Found", "stopCount", "I", false)
  | 1 => ("RoundPlans$Found", "vehicleCount", "I", false)
  | 2 => ("RoundPlans$Found", "cents", "J", false)
  | 3 => ("RoundPlans$Found", "vehicles", "[I", true)
  | 4 => ("RoundPlans$Found", "begins", "[I", true)
  | 5 => ("RoundPlans$Found", "order", "[I", true)
  | 6 => ("RoundPlans$Found", "lengths", "[I", true)
  | 7 => ("RoundPlans$Found", "backs", "[I", true)
  | _ => ("RoundPlans$Found", "more", "[J", true)
def ty_fd : Nat → FieldType := fun k => match k with
  | 0 => .int
  | 1 => .int
  | 2 => .long
  | 3 => .array .int
  | 4 => .array .int
  | 5 => .array .int
  | 6 => .array .int
  | 7 => .array .int
  | _ => .array .long
theorem nm_fd : ∀ a, a < 9 → ∀ b, b < 9 → a ≠ b → (T_fd a).2.1 ≠ (T_fd b).2.1 := by decide +kernel
theorem tk_fd : ∀ k, k < 9 → parseFieldDescriptor (T_fd k).2.2.1 = some (ty_fd k) := by decide +kernel
set_option maxRecDepth 100000 in
theorem in_fd : ∀ x ∈ u_ws R_fd T_fd 9, x ∈ zT := by
  have h : ∀ x ∈ u_ws R_fd T_fd 9, x ∈ tables_1 ∧ goodWord x = true := by decide +kernel
  exact fun x hx => List.mem_filter.mpr ⟨List.mem_append_right _ (h x hx).1, (h x hx).2⟩
def R_md : String := "RoundPlansModel"
def T_md : u_T := fun k => match k with
  | 0 => ("RoundPlansModel", "stops", "I", false)
  | 1 => ("RoundPlansModel", "loads", "[I", true)
  | 2 => ("RoundPlansModel", "firsts", "[I", true)
  | 3 => ("RoundPlansModel", "lasts", "[I", true)
  | 4 => ("RoundPlansModel", "services", "[I", true)
  | 5 => ("RoundPlansModel", "penalties", "[J", true)
  | 6 => ("RoundPlansModel", "fixedTo", "[I", true)
  | 7 => ("RoundPlansModel", "apart", "[Z", true)
  | 8 => ("RoundPlansModel", "before", "[Z", true)
  | 9 => ("RoundPlansModel", "vehicles", "I", false)
  | 10 => ("RoundPlansModel", "mosts", "[I", true)
  | 11 => ("RoundPlansModel", "leaves", "[I", true)
  | 12 => ("RoundPlansModel", "backs", "[I", true)
  | 13 => ("RoundPlansModel", "rates", "[I", true)
  | 14 => ("RoundPlansModel", "ways", "[I", true)
  | 15 => ("RoundPlansModel", "early", "[I", true)
  | 16 => ("RoundPlansModel", "rows", "[I", true)
  | 17 => ("RoundPlansModel", "trial", "[I", true)
  | 18 => ("RoundPlansModel", "isFound", "Z", false)
  | 19 => ("RoundPlansModel", "foundStops", "I", false)
  | 20 => ("RoundPlansModel", "foundVehicles", "I", false)
  | 21 => ("RoundPlansModel", "foundCost", "J", false)
  | 22 => ("RoundPlansModel", "vehicleOf", "[I", true)
  | 23 => ("RoundPlansModel", "begins", "[I", true)
  | 24 => ("RoundPlansModel", "rounds", "[I", true)
  | 25 => ("RoundPlansModel", "counts", "[I", true)
  | 26 => ("RoundPlansModel", "backAt", "[I", true)
  | _ => ("RoundPlansModel", "saves", "[J", true)
def ty_md : Nat → FieldType := fun k => match k with
  | 0 => .int
  | 1 => .array .int
  | 2 => .array .int
  | 3 => .array .int
  | 4 => .array .int
  | 5 => .array .long
  | 6 => .array .int
  | 7 => .array .boolean
  | 8 => .array .boolean
  | 9 => .int
  | 10 => .array .int
  | 11 => .array .int
  | 12 => .array .int
  | 13 => .array .int
  | 14 => .array .int
  | 15 => .array .int
  | 16 => .array .int
  | 17 => .array .int
  | 18 => .boolean
  | 19 => .int
  | 20 => .int
  | 21 => .long
  | 22 => .array .int
  | 23 => .array .int
  | 24 => .array .int
  | 25 => .array .int
  | 26 => .array .int
  | _ => .array .long
theorem nm_md : ∀ a, a < 28 → ∀ b, b < 28 → a ≠ b → (T_md a).2.1 ≠ (T_md b).2.1 := by decide +kernel
theorem tk_md : ∀ k, k < 28 → parseFieldDescriptor (T_md k).2.2.1 = some (ty_md k) := by decide +kernel
set_option maxRecDepth 100000 in
theorem in_md : ∀ x ∈ u_ws R_md T_md 28, x ∈ zT := by
  have h : ∀ x ∈ u_ws R_md T_md 28, x ∈ tables_1 ∧ goodWord x = true := by decide +kernel
  exact fun x hx => List.mem_filter.mpr ⟨List.mem_append_right _ (h x hx).1, (h x hx).2⟩
abbrev CC : List vw_C := [(R_rp, T_rp, 4), (R_td, T_td, 17), (R_rd, T_rd, 4), (R_pl, T_pl, 5), (R_fd, T_fd, 9), (R_md, T_md, 28)]
def lay : List (Nat × Nat × List (Nat × Nat)) := [(3, 0, [(2, 1), (2, 17), (2, 21), (2, 25)]), (4, 0, [(0, 0), (0, 0), (2, 2), (2, 3), (2, 4), (2, 5), (2, 6), (2, 7), (2, 8), (2, 9), (2, 10), (2, 11), (2, 12), (2, 13), (2, 14), (2, 15), (2, 16)]), (0, 7, []), (0, 7, []), (0, 7, []), (0, 7, []), (1, 7, []), (0, 7, []), (0, 7, []), (0, 7, []), (0, 7, []), (0, 7, []), (0, 3, []), (0, 3, []), (0, 3, []), (0, 3, []), (0, 64, []), (5, 0, [(2, 1), (2, 18), (2, 19), (2, 20)]), (0, 384, []), (0, 896, []), (0, 896, []), (6, 0, [(2, 1), (2, 17), (2, 22), (2, 23), (2, 24)]), (1, 384, []), (1, 128, []), (1, 128, []), (7, 0, [(0, 0), (0, 0), (1, 0), (2, 26), (2, 27), (2, 28), (2, 29), (2, 30), (2, 31)]), (0, 7, []), (0, 7, []), (0, 21, []), (0, 3, []), (0, 3, []), (1, 3, []), (8, 0, [(0, 0), (2, 33), (2, 34), (2, 35), (2, 36), (2, 37), (2, 38), (2, 39), (2, 40), (0, 0), (2, 41), (2, 42), (2, 43), (2, 44), (2, 45), (2, 46), (2, 47), (2, 48), (0, 0), (0, 0), (0, 0), (1, 0), (2, 49), (2, 50), (2, 51), (2, 52), (2, 53), (2, 54)]), (0, 7, []), (0, 7, []), (0, 7, []), (0, 7, []), (1, 7, []), (0, 7, []), (2, 49, []), (2, 49, []), (0, 3, []), (0, 3, []), (0, 3, []), (0, 3, []), (0, 64, []), (0, 384, []), (0, 384, []), (0, 7, []), (0, 7, []), (0, 7, []), (0, 3, []), (0, 3, []), (0, 3, []), (1, 3, [])]
def LL : zY := (55, fun k => lay.getD k (0, 0, []), [("RoundPlans$Found", 51, ⟨"RoundPlans", "costIn", "(J)J"⟩, "RoundPlans"), ("RoundPlans$Found", 55, ⟨"RoundPlans", "vehicleIn", "(JI)I"⟩, "RoundPlans"), ("RoundPlans$Plans", 67, ⟨"RoundPlans", "holds", "(II)Z"⟩, "RoundPlans"), ("RoundPlans$Plans", 74, ⟨"RoundPlans", "codeShift", "(I)I"⟩, "RoundPlans"), ("RoundPlans$Rounds", 43, ⟨"RoundPlans", "holds", "(II)Z"⟩, "RoundPlans"), ("RoundPlans$Rounds", 73, ⟨"RoundPlans", "without", "(II)I"⟩, "RoundPlans"), ("RoundPlans$Told", 76, ⟨"RoundPlans", "with", "(II)I"⟩, "RoundPlans"), ("RoundPlans$Told", 80, ⟨"RoundPlans", "without", "(II)I"⟩, "RoundPlans"), ("RoundPlans$Told", 83, ⟨"RoundPlans", "holds", "(II)Z"⟩, "RoundPlans")])
theorem ns_0 : (("RoundPlans$Found", 51, ⟨"RoundPlans", "costIn", "(J)J"⟩, "RoundPlans") : String × Nat × MethodName × String) ∈ LL.2.2 := List.mem_of_getElem? (i := 0) rfl
theorem ns_1 : (("RoundPlans$Found", 55, ⟨"RoundPlans", "vehicleIn", "(JI)I"⟩, "RoundPlans") : String × Nat × MethodName × String) ∈ LL.2.2 := List.mem_of_getElem? (i := 1) rfl
theorem ns_2 : (("RoundPlans$Plans", 67, ⟨"RoundPlans", "holds", "(II)Z"⟩, "RoundPlans") : String × Nat × MethodName × String) ∈ LL.2.2 := List.mem_of_getElem? (i := 2) rfl
theorem ns_3 : (("RoundPlans$Plans", 74, ⟨"RoundPlans", "codeShift", "(I)I"⟩, "RoundPlans") : String × Nat × MethodName × String) ∈ LL.2.2 := List.mem_of_getElem? (i := 3) rfl
theorem ns_4 : (("RoundPlans$Rounds", 43, ⟨"RoundPlans", "holds", "(II)Z"⟩, "RoundPlans") : String × Nat × MethodName × String) ∈ LL.2.2 := List.mem_of_getElem? (i := 4) rfl
theorem ns_5 : (("RoundPlans$Rounds", 73, ⟨"RoundPlans", "without", "(II)I"⟩, "RoundPlans") : String × Nat × MethodName × String) ∈ LL.2.2 := List.mem_of_getElem? (i := 5) rfl
theorem ns_6 : (("RoundPlans$Told", 76, ⟨"RoundPlans", "with", "(II)I"⟩, "RoundPlans") : String × Nat × MethodName × String) ∈ LL.2.2 := List.mem_of_getElem? (i := 6) rfl
theorem ns_7 : (("RoundPlans$Told", 80, ⟨"RoundPlans", "without", "(II)I"⟩, "RoundPlans") : String × Nat × MethodName × String) ∈ LL.2.2 := List.mem_of_getElem? (i := 7) rfl
theorem ns_8 : (("RoundPlans$Told", 83, ⟨"RoundPlans", "holds", "(II)Z"⟩, "RoundPlans") : String × Nat × MethodName × String) ∈ LL.2.2 := List.mem_of_getElem? (i := 8) rfl
def g_rp_init : zG := (⟨"RoundPlans", "<init>", "()V"⟩, prog_1_method_1_code, 1, none)
theorem o_rp_init : zO g_rp_init 0 := by unfold zO; decide +kernel
def g_rp_stop : zG := (⟨"RoundPlans", "stop", "(I)I"⟩, prog_1_method_2_code, 2, (some .int))
theorem o_rp_stop : zO g_rp_stop 1 := by unfold zO; decide +kernel
def g_rp_hours : zG := (⟨"RoundPlans", "hours", "(IIII)Z"⟩, prog_1_method_3_code, 5, (some .boolean))
theorem o_rp_hours : zO g_rp_hours 4 := by unfold zO; decide +kernel
def g_rp_penalty : zG := (⟨"RoundPlans", "penalty", "(IJ)Z"⟩, prog_1_method_4_code, 4, (some .boolean))
theorem o_rp_penalty : zO g_rp_penalty 2 := by unfold zO; decide +kernel
def g_rp_vehicle : zG := (⟨"RoundPlans", "vehicle", "(IIII)I"⟩, prog_1_method_5_code, 5, (some .int))
theorem o_rp_vehicle : zO g_rp_vehicle 4 := by unfold zO; decide +kernel
def g_rp_way : zG := (⟨"RoundPlans", "way", "(III)Z"⟩, prog_1_method_6_code, 4, (some .boolean))
theorem o_rp_way : zO g_rp_way 3 := by unfold zO; decide +kernel
def g_rp_fixed : zG := (⟨"RoundPlans", "fixed", "(II)Z"⟩, prog_1_method_7_code, 3, (some .boolean))
theorem o_rp_fixed : zO g_rp_fixed 2 := by unfold zO; decide +kernel
def g_rp_apart : zG := (⟨"RoundPlans", "apart", "(IIZ)Z"⟩, prog_1_method_8_code, 4, (some .boolean))
theorem o_rp_apart : zO g_rp_apart 3 := by unfold zO; decide +kernel
def g_rp_before : zG := (⟨"RoundPlans", "before", "(II)Z"⟩, prog_1_method_9_code, 3, (some .boolean))
theorem o_rp_before : zO g_rp_before 2 := by unfold zO; decide +kernel
def g_rp_run : zG := (⟨"RoundPlans", "run", "()I"⟩, prog_1_method_10_code, 5, (some .int))
theorem o_rp_run : zO g_rp_run 0 := by unfold zO; decide +kernel
def g_rp_cost : zG := (⟨"RoundPlans", "cost", "()J"⟩, prog_1_method_11_code, 1, (some .long))
theorem o_rp_cost : zO g_rp_cost 0 := by unfold zO; decide +kernel
def g_rp_vehicleOf : zG := (⟨"RoundPlans", "vehicleOf", "(I)I"⟩, prog_1_method_12_code, 2, (some .int))
theorem o_rp_vehicleOf : zO g_rp_vehicleOf 1 := by unfold zO; decide +kernel
def g_rp_at : zG := (⟨"RoundPlans", "at", "(II)I"⟩, prog_1_method_13_code, 3, (some .int))
theorem o_rp_at : zO g_rp_at 2 := by unfold zO; decide +kernel
def g_rp_begun : zG := (⟨"RoundPlans", "begun", "(I)I"⟩, prog_1_method_14_code, 2, (some .int))
theorem o_rp_begun : zO g_rp_begun 1 := by unfold zO; decide +kernel
def g_rp_back : zG := (⟨"RoundPlans", "back", "(I)I"⟩, prog_1_method_15_code, 2, (some .int))
theorem o_rp_back : zO g_rp_back 1 := by unfold zO; decide +kernel
def g_rp_saved : zG := (⟨"RoundPlans", "saved", "(I)J"⟩, prog_1_method_16_code, 2, (some .long))
theorem o_rp_saved : zO g_rp_saved 1 := by unfold zO; decide +kernel
def g_rp_isWithin : zG := (⟨"RoundPlans", "isWithin", "(II)Z"⟩, prog_1_method_17_code, 2, (some .boolean))
theorem o_rp_isWithin : zO g_rp_isWithin 2 := by unfold zO; decide +kernel
def g_rp_isSpan : zG := (⟨"RoundPlans", "isSpan", "(II)Z"⟩, prog_1_method_18_code, 2, (some .boolean))
theorem o_rp_isSpan : zO g_rp_isSpan 2 := by unfold zO; decide +kernel
def g_rp_holds : zG := (⟨"RoundPlans", "holds", "(II)Z"⟩, prog_1_method_19_code, 2, (some .boolean))
theorem o_rp_holds : zO g_rp_holds 2 := by unfold zO; decide +kernel
def g_rp_with : zG := (⟨"RoundPlans", "with", "(II)I"⟩, prog_1_method_20_code, 2, (some .int))
theorem o_rp_with : zO g_rp_with 2 := by unfold zO; decide +kernel
def g_rp_without : zG := (⟨"RoundPlans", "without", "(II)I"⟩, prog_1_method_21_code, 2, (some .int))
theorem o_rp_without : zO g_rp_without 2 := by unfold zO; decide +kernel
def g_rp_codeShift : zG := (⟨"RoundPlans", "codeShift", "(I)I"⟩, prog_1_method_22_code, 1, (some .int))
theorem o_rp_codeShift : zO g_rp_codeShift 1 := by unfold zO; decide +kernel
def g_rp_costIn : zG := (⟨"RoundPlans", "costIn", "(J)J"⟩, prog_1_method_23_code, 2, (some .long))
theorem o_rp_costIn : zO g_rp_costIn 1 := by unfold zO; decide +kernel
def g_rp_vehicleIn : zG := (⟨"RoundPlans", "vehicleIn", "(JI)I"⟩, prog_1_method_24_code, 3, (some .int))
theorem o_rp_vehicleIn : zO g_rp_vehicleIn 2 := by unfold zO; decide +kernel
def g_rp_setIn : zG := (⟨"RoundPlans", "setIn", "(JII)I"⟩, prog_1_method_25_code, 6, (some .int))
theorem o_rp_setIn : zO g_rp_setIn 3 := by unfold zO; decide +kernel
def g_md_init : zG := (⟨"RoundPlansModel", "<init>", "()V"⟩, prog_7_method_1_code, 2, none)
theorem o_md_init : zO g_md_init 0 := by unfold zO; decide +kernel
def g_md_isIn : zG := (⟨"RoundPlansModel", "isIn", "(JJJ)Z"⟩, prog_7_method_3_code, 6, (some .boolean))
theorem o_md_isIn : zO g_md_isIn 3 := by unfold zO; decide +kernel
def g_md_isStop : zG := (⟨"RoundPlansModel", "isStop", "(I)Z"⟩, prog_7_method_4_code, 2, (some .boolean))
theorem o_md_isStop : zO g_md_isStop 1 := by unfold zO; decide +kernel
def g_md_arePair : zG := (⟨"RoundPlansModel", "arePair", "(II)Z"⟩, prog_7_method_5_code, 3, (some .boolean))
theorem o_md_arePair : zO g_md_arePair 2 := by unfold zO; decide +kernel
def g_md_stop : zG := (⟨"RoundPlansModel", "stop", "(I)I"⟩, prog_7_method_6_code, 2, (some .int))
theorem o_md_stop : zO g_md_stop 1 := by unfold zO; decide +kernel
def g_md_hours : zG := (⟨"RoundPlansModel", "hours", "(IIII)Z"⟩, prog_7_method_7_code, 5, (some .boolean))
theorem o_md_hours : zO g_md_hours 4 := by unfold zO; decide +kernel
def g_md_penalty : zG := (⟨"RoundPlansModel", "penalty", "(IJ)Z"⟩, prog_7_method_8_code, 4, (some .boolean))
theorem o_md_penalty : zO g_md_penalty 2 := by unfold zO; decide +kernel
def g_md_vehicle : zG := (⟨"RoundPlansModel", "vehicle", "(IIII)I"⟩, prog_7_method_9_code, 5, (some .int))
theorem o_md_vehicle : zO g_md_vehicle 4 := by unfold zO; decide +kernel
def g_md_way : zG := (⟨"RoundPlansModel", "way", "(III)Z"⟩, prog_7_method_10_code, 4, (some .boolean))
theorem o_md_way : zO g_md_way 3 := by unfold zO; decide +kernel
def g_md_fixed : zG := (⟨"RoundPlansModel", "fixed", "(II)Z"⟩, prog_7_method_11_code, 3, (some .boolean))
theorem o_md_fixed : zO g_md_fixed 2 := by unfold zO; decide +kernel
def g_md_apart : zG := (⟨"RoundPlansModel", "apart", "(IIZ)Z"⟩, prog_7_method_12_code, 4, (some .boolean))
theorem o_md_apart : zO g_md_apart 3 := by unfold zO; decide +kernel
def g_md_leads : zG := (⟨"RoundPlansModel", "leads", "(II)Z"⟩, prog_7_method_13_code, 7, (some .boolean))
theorem o_md_leads : zO g_md_leads 2 := by unfold zO; decide +kernel
def g_md_before : zG := (⟨"RoundPlansModel", "before", "(II)Z"⟩, prog_7_method_14_code, 3, (some .boolean))
theorem o_md_before : zO g_md_before 2 := by unfold zO; decide +kernel
def g_md_mayFollow : zG := (⟨"RoundPlansModel", "mayFollow", "(III)Z"⟩, prog_7_method_15_code, 6, (some .boolean))
theorem o_md_mayFollow : zO g_md_mayFollow 3 := by unfold zO; decide +kernel
def g_md_drive : zG := (⟨"RoundPlansModel", "drive", "(II)I"⟩, prog_7_method_16_code, 8, (some .int))
theorem o_md_drive : zO g_md_drive 2 := by unfold zO; decide +kernel
def g_md_setOf : zG := (⟨"RoundPlansModel", "setOf", "(I)I"⟩, prog_7_method_17_code, 4, (some .int))
theorem o_md_setOf : zO g_md_setOf 1 := by unfold zO; decide +kernel
def g_md_rowOf : zG := (⟨"RoundPlansModel", "rowOf", "(I)I"⟩, prog_7_method_18_code, 4, (some .int))
theorem o_md_rowOf : zO g_md_rowOf 1 := by unfold zO; decide +kernel
def g_md_driveAll : zG := (⟨"RoundPlansModel", "driveAll", "(I)V"⟩, prog_7_method_19_code, 4, none)
theorem o_md_driveAll : zO g_md_driveAll 1 := by unfold zO; decide +kernel
def g_md_keep : zG := (⟨"RoundPlansModel", "keep", "(II)V"⟩, prog_7_method_20_code, 5, none)
theorem o_md_keep : zO g_md_keep 2 := by unfold zO; decide +kernel
def g_md_digit : zG := (⟨"RoundPlansModel", "digit", "(II)I"⟩, prog_7_method_21_code, 2, (some .int))
theorem o_md_digit : zO g_md_digit 2 := by unfold zO; decide +kernel
def g_md_setIn : zG := (⟨"RoundPlansModel", "setIn", "(II)I"⟩, prog_7_method_22_code, 5, (some .int))
theorem o_md_setIn : zO g_md_setIn 2 := by unfold zO; decide +kernel
def g_md_costOf : zG := (⟨"RoundPlansModel", "costOf", "(II)J"⟩, prog_7_method_23_code, 7, (some .long))
theorem o_md_costOf : zO g_md_costOf 2 := by unfold zO; decide +kernel
def g_md_bestPlan : zG := (⟨"RoundPlansModel", "bestPlan", "(I)I"⟩, prog_7_method_24_code, 8, (some .int))
theorem o_md_bestPlan : zO g_md_bestPlan 1 := by unfold zO; decide +kernel
def g_md_run : zG := (⟨"RoundPlansModel", "run", "()I"⟩, prog_7_method_25_code, 4, (some .int))
theorem o_md_run : zO g_md_run 0 := by unfold zO; decide +kernel
def g_md_tellRound : zG := (⟨"RoundPlansModel", "tellRound", "(II)V"⟩, prog_7_method_26_code, 4, none)
theorem o_md_tellRound : zO g_md_tellRound 2 := by unfold zO; decide +kernel
def g_md_cost : zG := (⟨"RoundPlansModel", "cost", "()J"⟩, prog_7_method_27_code, 1, (some .long))
theorem o_md_cost : zO g_md_cost 0 := by unfold zO; decide +kernel
def g_md_vehicleOf : zG := (⟨"RoundPlansModel", "vehicleOf", "(I)I"⟩, prog_7_method_28_code, 2, (some .int))
theorem o_md_vehicleOf : zO g_md_vehicleOf 1 := by unfold zO; decide +kernel
def g_md_at : zG := (⟨"RoundPlansModel", "at", "(II)I"⟩, prog_7_method_29_code, 3, (some .int))
theorem o_md_at : zO g_md_at 2 := by unfold zO; decide +kernel
def g_md_begun : zG := (⟨"RoundPlansModel", "begun", "(I)I"⟩, prog_7_method_30_code, 2, (some .int))
theorem o_md_begun : zO g_md_begun 1 := by unfold zO; decide +kernel
def g_md_back : zG := (⟨"RoundPlansModel", "back", "(I)I"⟩, prog_7_method_31_code, 2, (some .int))
theorem o_md_back : zO g_md_back 1 := by unfold zO; decide +kernel
def g_md_saved : zG := (⟨"RoundPlansModel", "saved", "(I)J"⟩, prog_7_method_32_code, 2, (some .long))
theorem o_md_saved : zO g_md_saved 1 := by unfold zO; decide +kernel
def g_fd_init : zG := (⟨"RoundPlans$Found", "<init>", "()V"⟩, prog_2_method_1_code, 1, none)
theorem o_fd_init : zO g_fd_init 0 := by unfold zO; decide +kernel
def g_fd_hasStop : zG := (⟨"RoundPlans$Found", "hasStop", "(I)Z"⟩, prog_2_method_2_code, 2, (some .boolean))
theorem o_fd_hasStop : zO g_fd_hasStop 1 := by unfold zO; decide +kernel
def g_fd_hasVehicle : zG := (⟨"RoundPlans$Found", "hasVehicle", "(I)Z"⟩, prog_2_method_3_code, 2, (some .boolean))
theorem o_fd_hasVehicle : zO g_fd_hasVehicle 1 := by unfold zO; decide +kernel
def g_fd_take : zG := (⟨"RoundPlans$Found", "take", "(LRoundPlans$Told;J)V"⟩, prog_2_method_4_code, 5, none)
theorem o_fd_take : zO g_fd_take 2 := by unfold zO; decide +kernel
def g_fd_note : zG := (⟨"RoundPlans$Found", "note", "(III)V"⟩, prog_2_method_5_code, 5, none)
theorem o_fd_note : zO g_fd_note 3 := by unfold zO; decide +kernel
def g_pl_init : zG := (⟨"RoundPlans$Plans", "<init>", "(LRoundPlans$Told;LRoundPlans$Rounds;)V"⟩, prog_3_method_1_code, 3, none)
theorem o_pl_init : zO g_pl_init 2 := by unfold zO; decide +kernel
def g_pl_findPrices : zG := (⟨"RoundPlans$Plans", "findPrices", "()V"⟩, prog_3_method_2_code, 5, none)
theorem o_pl_findPrices : zO g_pl_findPrices 0 := by unfold zO; decide +kernel
def g_pl_findPrice : zG := (⟨"RoundPlans$Plans", "findPrice", "(IIJ)J"⟩, prog_3_method_3_code, 8, (some .long))
theorem o_pl_findPrice : zO g_pl_findPrice 3 := by unfold zO; decide +kernel
def g_pl_penaltiesOf : zG := (⟨"RoundPlans$Plans", "penaltiesOf", "(I)J"⟩, prog_3_method_4_code, 5, (some .long))
theorem o_pl_penaltiesOf : zO g_pl_penaltiesOf 1 := by unfold zO; decide +kernel
def g_pl_codeOfOnes : zG := (⟨"RoundPlans$Plans", "codeOfOnes", "(I)J"⟩, prog_3_method_5_code, 5, (some .long))
theorem o_pl_codeOfOnes : zO g_pl_codeOfOnes 1 := by unfold zO; decide +kernel
def g_pl_cheapest : zG := (⟨"RoundPlans$Plans", "cheapest", "(I)J"⟩, prog_3_method_6_code, 4, (some .long))
theorem o_pl_cheapest : zO g_pl_cheapest 1 := by unfold zO; decide +kernel
def g_pl_addRounds : zG := (⟨"RoundPlans$Plans", "addRounds", "(II)V"⟩, prog_3_method_7_code, 4, none)
theorem o_pl_addRounds : zO g_pl_addRounds 2 := by unfold zO; decide +kernel
def g_pl_leastWith : zG := (⟨"RoundPlans$Plans", "leastWith", "(II)J"⟩, prog_3_method_8_code, 6, (some .long))
theorem o_pl_leastWith : zO g_pl_leastWith 2 := by unfold zO; decide +kernel
def g_rd_init : zG := (⟨"RoundPlans$Rounds", "<init>", "(LRoundPlans$Told;)V"⟩, prog_4_method_1_code, 2, none)
theorem o_rd_init : zO g_rd_init 1 := by unfold zO; decide +kernel
def g_rd_firstBack : zG := (⟨"RoundPlans$Rounds", "firstBack", "(II)I"⟩, prog_4_method_2_code, 3, (some .int))
theorem o_rd_firstBack : zO g_rd_firstBack 2 := by unfold zO; decide +kernel
def g_rd_findBacks : zG := (⟨"RoundPlans$Rounds", "findBacks", "()V"⟩, prog_4_method_3_code, 4, none)
theorem o_rd_findBacks : zO g_rd_findBacks 0 := by unfold zO; decide +kernel
def g_rd_mayHave : zG := (⟨"RoundPlans$Rounds", "mayHave", "(II)Z"⟩, prog_4_method_4_code, 6, (some .boolean))
theorem o_rd_mayHave : zO g_rd_mayHave 2 := by unfold zO; decide +kernel
def g_rd_findBack : zG := (⟨"RoundPlans$Rounds", "findBack", "(II)I"⟩, prog_4_method_5_code, 6, (some .int))
theorem o_rd_findBack : zO g_rd_findBack 2 := by unfold zO; decide +kernel
def g_rd_findReady : zG := (⟨"RoundPlans$Rounds", "findReady", "(III)I"⟩, prog_4_method_6_code, 8, (some .int))
theorem o_rd_findReady : zO g_rd_findReady 3 := by unfold zO; decide +kernel
def g_rd_drive : zG := (⟨"RoundPlans$Rounds", "drive", "(IILRoundPlans$Found;)V"⟩, prog_4_method_7_code, 9, none)
theorem o_rd_drive : zO g_rd_drive 3 := by unfold zO; decide +kernel
def g_rd_firstInTime : zG := (⟨"RoundPlans$Rounds", "firstInTime", "(III)I"⟩, prog_4_method_8_code, 5, (some .int))
theorem o_rd_firstInTime : zO g_rd_firstInTime 3 := by unfold zO; decide +kernel
def g_rd_findLatest : zG := (⟨"RoundPlans$Rounds", "findLatest", "(II)V"⟩, prog_4_method_9_code, 5, none)
theorem o_rd_findLatest : zO g_rd_findLatest 2 := by unfold zO; decide +kernel
def g_rd_findLatestAt : zG := (⟨"RoundPlans$Rounds", "findLatestAt", "(III)I"⟩, prog_4_method_10_code, 8, (some .int))
theorem o_rd_findLatestAt : zO g_rd_findLatestAt 3 := by unfold zO; decide +kernel
def g_td_init : zG := (⟨"RoundPlans$Told", "<init>", "()V"⟩, prog_5_method_1_code, 1, none)
theorem o_td_init : zO g_td_init 0 := by unfold zO; decide +kernel
def g_td_hasStop : zG := (⟨"RoundPlans$Told", "hasStop", "(I)Z"⟩, prog_5_method_2_code, 2, (some .boolean))
theorem o_td_hasStop : zO g_td_hasStop 1 := by unfold zO; decide +kernel
def g_td_hasVehicle : zG := (⟨"RoundPlans$Told", "hasVehicle", "(I)Z"⟩, prog_5_method_3_code, 2, (some .boolean))
theorem o_td_hasVehicle : zO g_td_hasVehicle 1 := by unfold zO; decide +kernel
def g_td_areTwoStops : zG := (⟨"RoundPlans$Told", "areTwoStops", "(II)Z"⟩, prog_5_method_4_code, 3, (some .boolean))
theorem o_td_areTwoStops : zO g_td_areTwoStops 2 := by unfold zO; decide +kernel
def g_td_addStop : zG := (⟨"RoundPlans$Told", "addStop", "(I)I"⟩, prog_5_method_5_code, 2, (some .int))
theorem o_td_addStop : zO g_td_addStop 1 := by unfold zO; decide +kernel
def g_td_addVehicle : zG := (⟨"RoundPlans$Told", "addVehicle", "(IIII)I"⟩, prog_5_method_6_code, 5, (some .int))
theorem o_td_addVehicle : zO g_td_addVehicle 4 := by unfold zO; decide +kernel
def g_td_setApart : zG := (⟨"RoundPlans$Told", "setApart", "(IIZ)V"⟩, prog_5_method_7_code, 4, none)
theorem o_td_setApart : zO g_td_setApart 3 := by unfold zO; decide +kernel
def g_td_setBefore : zG := (⟨"RoundPlans$Told", "setBefore", "(II)V"⟩, prog_5_method_8_code, 5, none)
theorem o_td_setBefore : zO g_td_setBefore 2 := by unfold zO; decide +kernel
def g_td_seconds : zG := (⟨"RoundPlans$Told", "seconds", "(II)I"⟩, prog_5_method_9_code, 3, (some .int))
theorem o_td_seconds : zO g_td_seconds 2 := by unfold zO; decide +kernel
def g_ig_bitCount : zG := (⟨"java/lang/Integer", "bitCount", "(I)I"⟩, prog_8_method_49_code, 1, (some .int))
theorem o_ig_bitCount : zO g_ig_bitCount 1 := by unfold zO; decide +kernel
def g_ar_fill : zG := (⟨"java/util/Arrays", "fill", "([II)V"⟩, prog_11_method_103_code, 4, none)
theorem o_ar_fill : zO g_ar_fill 2 := by unfold zO; decide +kernel
