/-! rooms, then the small methods -/
def rm_rp_stop : Room := { frames := 1, cells := 0, slots := 0, locals := 21 }
def rm_rp_hours : Room := { frames := 1, cells := 0, slots := 0, locals := 21 }
def rm_rp_penalty : Room := { frames := 1, cells := 0, slots := 0, locals := 21 }
def rm_rp_vehicle : Room := { frames := 1, cells := 0, slots := 0, locals := 24 }
def rm_rp_way : Room := { frames := 1, cells := 0, slots := 0, locals := 21 }
def rm_rp_fixed : Room := { frames := 1, cells := 0, slots := 0, locals := 21 }
def rm_rp_apart : Room := { frames := 2, cells := 0, slots := 0, locals := 44 }
def rm_rp_before : Room := { frames := 2, cells := 0, slots := 0, locals := 45 }
def rm_rp_run : Room := { frames := 4, cells := 0, slots := 0, locals := 102 }
def rm_rp_cost : Room := { frames := 0, cells := 0, slots := 0, locals := 0 }
def rm_rp_vehicleOf : Room := { frames := 1, cells := 0, slots := 0, locals := 21 }
def rm_rp_at : Room := { frames := 1, cells := 0, slots := 0, locals := 21 }
def rm_rp_begun : Room := { frames := 1, cells := 0, slots := 0, locals := 21 }
def rm_rp_back : Room := { frames := 1, cells := 0, slots := 0, locals := 21 }
def rm_rp_saved : Room := { frames := 1, cells := 0, slots := 0, locals := 21 }
def rm_rp_isWithin : Room := { frames := 0, cells := 0, slots := 0, locals := 0 }
def rm_rp_isSpan : Room := { frames := 0, cells := 0, slots := 0, locals := 0 }
def rm_rp_holds : Room := { frames := 0, cells := 0, slots := 0, locals := 0 }
def rm_rp_with : Room := { frames := 0, cells := 0, slots := 0, locals := 0 }
def rm_rp_without : Room := { frames := 0, cells := 0, slots := 0, locals := 0 }
def rm_rp_codeShift : Room := { frames := 0, cells := 0, slots := 0, locals := 0 }
def rm_rp_costIn : Room := { frames := 0, cells := 0, slots := 0, locals := 0 }
def rm_rp_vehicleIn : Room := { frames := 1, cells := 0, slots := 0, locals := 20 }
def rm_rp_setIn : Room := { frames := 2, cells := 0, slots := 0, locals := 42 }
def rm_md_isIn : Room := { frames := 0, cells := 0, slots := 0, locals := 0 }
def rm_md_isStop : Room := { frames := 0, cells := 0, slots := 0, locals := 0 }
def rm_md_arePair : Room := { frames := 1, cells := 0, slots := 0, locals := 21 }
def rm_md_stop : Room := { frames := 1, cells := 0, slots := 0, locals := 25 }
def rm_md_hours : Room := { frames := 1, cells := 0, slots := 0, locals := 25 }
def rm_md_penalty : Room := { frames := 1, cells := 0, slots := 0, locals := 25 }
def rm_md_vehicle : Room := { frames := 1, cells := 0, slots := 0, locals := 25 }
def rm_md_way : Room := { frames := 1, cells := 0, slots := 0, locals := 25 }
def rm_md_fixed : Room := { frames := 1, cells := 0, slots := 0, locals := 21 }
def rm_md_apart : Room := { frames := 2, cells := 0, slots := 0, locals := 43 }
def rm_md_leads : Room := { frames := 0, cells := 0, slots := 0, locals := 0 }
def rm_md_before : Room := { frames := 2, cells := 0, slots := 0, locals := 43 }
def rm_md_mayFollow : Room := { frames := 0, cells := 0, slots := 0, locals := 0 }
def rm_md_drive : Room := { frames := 0, cells := 0, slots := 0, locals := 0 }
def rm_md_setOf : Room := { frames := 0, cells := 0, slots := 0, locals := 0 }
def rm_md_rowOf : Room := { frames := 0, cells := 0, slots := 0, locals := 0 }
def rm_md_driveAll : Room := { frames := 2, cells := 0, slots := 0, locals := 51 }
def rm_md_keep : Room := { frames := 1, cells := 0, slots := 0, locals := 27 }
def rm_md_digit : Room := { frames := 0, cells := 0, slots := 0, locals := 0 }
def rm_md_setIn : Room := { frames := 1, cells := 0, slots := 0, locals := 21 }
def rm_md_costOf : Room := { frames := 2, cells := 0, slots := 0, locals := 45 }
def rm_md_bestPlan : Room := { frames := 3, cells := 0, slots := 0, locals := 71 }
def rm_md_run : Room := { frames := 4, cells := 0, slots := 0, locals := 98 }
def rm_md_tellRound : Room := { frames := 1, cells := 0, slots := 0, locals := 27 }
def rm_md_cost : Room := { frames := 0, cells := 0, slots := 0, locals := 0 }
def rm_md_vehicleOf : Room := { frames := 0, cells := 0, slots := 0, locals := 0 }
def rm_md_at : Room := { frames := 0, cells := 0, slots := 0, locals := 0 }
def rm_md_begun : Room := { frames := 0, cells := 0, slots := 0, locals := 0 }
def rm_md_back : Room := { frames := 0, cells := 0, slots := 0, locals := 0 }
def rm_md_saved : Room := { frames := 0, cells := 0, slots := 0, locals := 0 }
def rm_fd_hasStop : Room := { frames := 0, cells := 0, slots := 0, locals := 0 }
def rm_fd_hasVehicle : Room := { frames := 0, cells := 0, slots := 0, locals := 0 }
def rm_fd_take : Room := { frames := 2, cells := 0, slots := 0, locals := 42 }
def rm_fd_note : Room := { frames := 0, cells := 0, slots := 0, locals := 0 }
def rm_pl_findPrices : Room := { frames := 2, cells := 0, slots := 0, locals := 49 }
def rm_pl_findPrice : Room := { frames := 1, cells := 0, slots := 0, locals := 22 }
def rm_pl_penaltiesOf : Room := { frames := 1, cells := 0, slots := 0, locals := 21 }
def rm_pl_codeOfOnes : Room := { frames := 1, cells := 0, slots := 0, locals := 21 }
def rm_pl_cheapest : Room := { frames := 3, cells := 0, slots := 0, locals := 71 }
def rm_pl_addRounds : Room := { frames := 2, cells := 0, slots := 0, locals := 48 }
def rm_pl_leastWith : Room := { frames := 1, cells := 0, slots := 0, locals := 23 }
def rm_rd_firstBack : Room := { frames := 0, cells := 0, slots := 0, locals := 0 }
def rm_rd_findBacks : Room := { frames := 3, cells := 0, slots := 0, locals := 75 }
def rm_rd_mayHave : Room := { frames := 1, cells := 0, slots := 0, locals := 21 }
def rm_rd_findBack : Room := { frames := 2, cells := 0, slots := 0, locals := 50 }
def rm_rd_findReady : Room := { frames := 1, cells := 0, slots := 0, locals := 23 }
def rm_rd_drive : Room := { frames := 3, cells := 0, slots := 0, locals := 74 }
def rm_rd_firstInTime : Room := { frames := 1, cells := 0, slots := 0, locals := 22 }
def rm_rd_findLatest : Room := { frames := 2, cells := 0, slots := 0, locals := 50 }
def rm_rd_findLatestAt : Room := { frames := 1, cells := 0, slots := 0, locals := 23 }
def rm_td_hasStop : Room := { frames := 0, cells := 0, slots := 0, locals := 0 }
def rm_td_hasVehicle : Room := { frames := 0, cells := 0, slots := 0, locals := 0 }
def rm_td_areTwoStops : Room := { frames := 1, cells := 0, slots := 0, locals := 21 }
def rm_td_addStop : Room := { frames := 0, cells := 0, slots := 0, locals := 0 }
def rm_td_addVehicle : Room := { frames := 0, cells := 0, slots := 0, locals := 0 }
def rm_td_setApart : Room := { frames := 1, cells := 0, slots := 0, locals := 21 }
def rm_td_setBefore : Room := { frames := 1, cells := 0, slots := 0, locals := 21 }
def rm_td_seconds : Room := { frames := 0, cells := 0, slots := 0, locals := 0 }
def rm_ig_bitCount : Room := { frames := 0, cells := 0, slots := 0, locals := 0 }
def rm_ar_fill : Room := { frames := 0, cells := 0, slots := 0, locals := 0 }

set_option maxRecDepth 20000 in
set_option maxHeartbeats 4000000 in
theorem c_rp_holds (l : Launch) (w : zW) (σ : Nat → Nat → Int) (S s : Nat) (hS : S < 128) (hs : s < 7) : zMi l w LL CC g_rp_holds rm_rp_holds [.int (zI ((S : Int))), .int (zI ((s : Int)))] σ (zB (S.testBit s = true)) (σ) := by
  refine zMi.of g_rp_holds (by decide +kernel) (Nat.le_of_ble_eq_true rfl) rfl ?_
  intro p e u m args below meth c C hr
  have C : zC p u m args meth c prog_1_method_19_code 2 "RoundPlans" w LL CC := C
  have hr : meth.sig.returnType = (some .boolean) := hr
  show V p l e rm_rp_holds u m args below meth c 2 w LL CC 0 0 (MQ below (zQi w LL CC (zB (S.testBit s = true)) (σ) u.heap.size) args u 0 0 (zA w LL.1 u.heap.size)) 0 [(0, .int (zI ((S : Int)))), (1, .int (zI ((s : Int))))] [] σ
  refine V_iload_n C d_rp_holds_0 0 rfl ?_
  refine V_iload_n C d_rp_holds_1 1 rfl ?_
  refine V_ishr C (((S / 2 ^ s : Nat) : Int)) d_rp_holds_2 (zI_shr (by omega) (by omega)) ?_
  refine V_iconst C d_rp_holds_3 ?_
  refine V_iand C (((S / 2 ^ s &&& 1 : Nat) : Int)) d_rp_holds_4 (zI_and (S / 2 ^ s) 1) ?_
  have hb : S / 2 ^ s &&& 1 ≤ 1 := Nat.and_le_right
  refine V_ifeq C 12 d_rp_holds_5 (by decide) ⟨by omega, by omega⟩ (fun h1 => ?_) (fun h1 => ?_)
  · refine V_iconst C d_rp_holds_12 ?_
    exact V_zret C hr d_rp_holds_13 (by decide) (zB_f (tb_0.mp h1)) rfl
  · refine V_iconst C d_rp_holds_8 ?_
    refine V_goto C 13 d_rp_holds_9 (by decide) ?_
    exact V_zret C hr d_rp_holds_13 (by decide) (zB_t (Decidable.byContradiction fun z => h1 (tb_0.mpr z))) rfl

set_option maxRecDepth 20000 in
set_option maxHeartbeats 4000000 in
theorem c_rp_with (l : Launch) (w : zW) (σ : Nat → Nat → Int) (S s : Nat) (hs : s < 7) : zMi l w LL CC g_rp_with rm_rp_with [.int (zI ((S : Int))), .int (zI ((s : Int)))] σ (((wi S s : Nat) : Int)) (σ) := by
  refine zMi.of g_rp_with (by decide +kernel) (Nat.le_of_ble_eq_true rfl) rfl ?_
  intro p e u m args below meth c C hr
  have C : zC p u m args meth c prog_1_method_20_code 2 "RoundPlans" w LL CC := C
  have hr : meth.sig.returnType = (some .int) := hr
  show V p l e rm_rp_with u m args below meth c 2 w LL CC 0 0 (MQ below (zQi w LL CC (((wi S s : Nat) : Int)) (σ) u.heap.size) args u 0 0 (zA w LL.1 u.heap.size)) 0 [(0, .int (zI ((S : Int)))), (1, .int (zI ((s : Int))))] [] σ
  refine V_iload_n C d_rp_with_0 0 rfl ?_
  refine V_iconst C d_rp_with_1 ?_
  refine V_iload_n C d_rp_with_2 1 rfl ?_
  refine V_ishl C (((2 ^ s : Nat) : Int)) d_rp_with_3 (zI_shl1 (by omega)) ?_
  refine V_ior C (((wi S s : Nat) : Int)) d_rp_with_4 zI_wi ?_
  exact V_iret C hr d_rp_with_5 rfl rfl

set_option maxRecDepth 20000 in
set_option maxHeartbeats 4000000 in
theorem c_rp_without (l : Launch) (w : zW) (σ : Nat → Nat → Int) (S s : Nat) (hS : S < 128) (hs : s < 7) : zMi l w LL CC g_rp_without rm_rp_without [.int (zI ((S : Int))), .int (zI ((s : Int)))] σ (((wo S s : Nat) : Int)) (σ) := by
  refine zMi.of g_rp_without (by decide +kernel) (Nat.le_of_ble_eq_true rfl) rfl ?_
  intro p e u m args below meth c C hr
  have C : zC p u m args meth c prog_1_method_21_code 2 "RoundPlans" w LL CC := C
  have hr : meth.sig.returnType = (some .int) := hr
  show V p l e rm_rp_without u m args below meth c 2 w LL CC 0 0 (MQ below (zQi w LL CC (((wo S s : Nat) : Int)) (σ) u.heap.size) args u 0 0 (zA w LL.1 u.heap.size)) 0 [(0, .int (zI ((S : Int)))), (1, .int (zI ((s : Int))))] [] σ
  refine V_iload_n C d_rp_without_0 0 rfl ?_
  refine V_iconst C d_rp_without_1 ?_
  refine V_iload_n C d_rp_without_2 1 rfl ?_
  refine V_ishl C (((2 ^ s : Nat) : Int)) d_rp_without_3 (zI_shl1 (by omega)) ?_
  have h2 : 2 ^ s < 2 ^ 7 := Nat.pow_lt_pow_right (by omega) hs
  refine V_iconst C d_rp_without_4 ?_
  refine V_ixor C (-1 - ((2 ^ s : Nat) : Int)) d_rp_without_5 (zI_not (2 ^ s) (by omega)) ?_
  refine V_iand C (((wo S s : Nat) : Int)) d_rp_without_6 (zI_wo1 S hS s hs) ?_
  exact V_iret C hr d_rp_without_7 rfl rfl

set_option maxRecDepth 20000 in
set_option maxHeartbeats 4000000 in
theorem c_rp_isWithin (l : Launch) (w : zW) (σ : Nat → Nat → Int) (a b : Int) (ha : rI a) (hb : rI b) : zMi l w LL CC g_rp_isWithin rm_rp_isWithin [.int (zI (a)), .int (zI (b))] σ (zB (0 ≤ a ∧ a ≤ b)) (σ) := by
  refine zMi.of g_rp_isWithin (by decide +kernel) (Nat.le_of_ble_eq_true rfl) rfl ?_
  intro p e u m args below meth c C hr
  have C : zC p u m args meth c prog_1_method_17_code 2 "RoundPlans" w LL CC := C
  have hr : meth.sig.returnType = (some .boolean) := hr
  show V p l e rm_rp_isWithin u m args below meth c 2 w LL CC 0 0 (MQ below (zQi w LL CC (zB (0 ≤ a ∧ a ≤ b)) (σ) u.heap.size) args u 0 0 (zA w LL.1 u.heap.size)) 0 [(0, .int (zI (a))), (1, .int (zI (b)))] [] σ
  refine V_iload_n C d_rp_isWithin_0 0 rfl ?_
  refine V_iflt C 13 d_rp_isWithin_1 (by decide) ha (fun h1 => ?_) (fun h1 => ?_)
  · refine V_iconst C d_rp_isWithin_13 ?_
    exact V_zret C hr d_rp_isWithin_14 (by decide) (by first | exact zB_t (by omega) | exact zB_f (by omega)) rfl
  · refine V_iload_n C d_rp_isWithin_4 0 rfl ?_
    refine V_iload_n C d_rp_isWithin_5 1 rfl ?_
    refine V_cmpgt C 13 d_rp_isWithin_6 (by decide) ha hb (fun h2 => ?_) (fun h2 => ?_)
    · refine V_iconst C d_rp_isWithin_13 ?_
      exact V_zret C hr d_rp_isWithin_14 (by decide) (by first | exact zB_t (by omega) | exact zB_f (by omega)) rfl
    · refine V_iconst C d_rp_isWithin_9 ?_
      refine V_goto C 14 d_rp_isWithin_10 (by decide) ?_
      exact V_zret C hr d_rp_isWithin_14 (by decide) (by first | exact zB_t (by omega) | exact zB_f (by omega)) rfl

set_option maxRecDepth 20000 in
set_option maxHeartbeats 4000000 in
theorem c_rp_isSpan (l : Launch) (w : zW) (σ : Nat → Nat → Int) (a b : Int) (ha : rI a) (hb : rI b) : zMi l w LL CC g_rp_isSpan rm_rp_isSpan [.int (zI (a)), .int (zI (b))] σ (zB (0 ≤ a ∧ a ≤ b ∧ b ≤ 86399)) (σ) := by
  refine zMi.of g_rp_isSpan (by decide +kernel) (Nat.le_of_ble_eq_true rfl) rfl ?_
  intro p e u m args below meth c C hr
  have C : zC p u m args meth c prog_1_method_18_code 2 "RoundPlans" w LL CC := C
  have hr : meth.sig.returnType = (some .boolean) := hr
  obtain ⟨ha1, ha2⟩ := id ha
  obtain ⟨hb1, hb2⟩ := id hb
  show V p l e rm_rp_isSpan u m args below meth c 2 w LL CC 0 0 (MQ below (zQi w LL CC (zB (0 ≤ a ∧ a ≤ b ∧ b ≤ 86399)) (σ) u.heap.size) args u 0 0 (zA w LL.1 u.heap.size)) 0 [(0, .int (zI (a))), (1, .int (zI (b)))] [] σ
  refine V_iload_n C d_rp_isSpan_0 0 rfl ?_
  refine V_iflt C 19 d_rp_isSpan_1 (by decide) ha (fun h1 => ?_) (fun h1 => ?_)
  · refine V_iconst C d_rp_isSpan_19 ?_
    exact V_zret C hr d_rp_isSpan_20 (by decide) (by first | exact zB_t (by omega) | exact zB_f (by omega)) rfl
  · refine V_iload_n C d_rp_isSpan_4 0 rfl ?_
    refine V_iload_n C d_rp_isSpan_5 1 rfl ?_
    refine V_cmpgt C 19 d_rp_isSpan_6 (by decide) ha hb (fun h2 => ?_) (fun h2 => ?_)
    · refine V_iconst C d_rp_isSpan_19 ?_
      exact V_zret C hr d_rp_isSpan_20 (by decide) (by first | exact zB_t (by omega) | exact zB_f (by omega)) rfl
    · refine V_iload_n C d_rp_isSpan_9 1 rfl ?_
      refine V_ldc C (86399) d_rp_isSpan_10 wd_233 ?_
      refine V_cmpgt C 19 d_rp_isSpan_12 (by decide) hb ⟨by omega, by omega⟩ (fun h3 => ?_) (fun h3 => ?_)
      · refine V_iconst C d_rp_isSpan_19 ?_
        exact V_zret C hr d_rp_isSpan_20 (by decide) (by first | exact zB_t (by omega) | exact zB_f (by omega)) rfl
      · refine V_iconst C d_rp_isSpan_15 ?_
        refine V_goto C 20 d_rp_isSpan_16 (by decide) ?_
        exact V_zret C hr d_rp_isSpan_20 (by decide) (by first | exact zB_t (by omega) | exact zB_f (by omega)) rfl

set_option maxRecDepth 20000 in
set_option maxHeartbeats 4000000 in
theorem c_rp_codeShift (l : Launch) (w : zW) (σ : Nat → Nat → Int) (s : Nat) (hs : s < 7) : zMi l w LL CC g_rp_codeShift rm_rp_codeShift [.int (zI ((s : Int)))] σ (((2 * (6 - s) : Nat) : Int)) (σ) := by
  refine zMi.of g_rp_codeShift (by decide +kernel) (Nat.le_of_ble_eq_true rfl) rfl ?_
  intro p e u m args below meth c C hr
  have C : zC p u m args meth c prog_1_method_22_code 1 "RoundPlans" w LL CC := C
  have hr : meth.sig.returnType = (some .int) := hr
  show V p l e rm_rp_codeShift u m args below meth c 1 w LL CC 0 0 (MQ below (zQi w LL CC (((2 * (6 - s) : Nat) : Int)) (σ) u.heap.size) args u 0 0 (zA w LL.1 u.heap.size)) 0 [(0, .int (zI ((s : Int))))] [] σ
  refine V_iconst C d_rp_codeShift_0 ?_
  refine V_bipush C d_rp_codeShift_1 (by decide) ?_
  refine V_iload_n C d_rp_codeShift_3 0 rfl ?_
  refine V_isub C d_rp_codeShift_4 ?_
  refine V_imul C d_rp_codeShift_5 ?_
  exact V_iret C hr d_rp_codeShift_6 (by omega) rfl
