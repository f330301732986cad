/-! Plans: the contracts -/
set_option maxRecDepth 20000 in
set_option maxHeartbeats 4000000 in
theorem c_pl_penaltiesOf (l : Launch) (w : zW) (σ : Nat → Nat → Int) (n nv : Nat) (hT : tI σ n nv) (S : Nat) (hS : S < 128) : zMl l w LL CC g_pl_penaltiesOf rm_pl_penaltiesOf [.ref (w.1 21), .int (zI ((S : Int)))] σ (pnG σ S n) (σ) := by
  refine zMl.of g_pl_penaltiesOf (by decide +kernel) (Nat.le_of_ble_eq_true rfl) rfl ?_
  intro p e u m args below meth c C hr
  have C : zC p u m args meth c prog_3_method_4_code 5 "RoundPlans$Plans" w LL CC := C
  have hr : meth.sig.returnType = (some .long) := hr
  obtain ⟨hn, hn7, hv, hv3, h2, h3, h4, h5, h6, h7, h8, h9, h10, h11, h12, h13, h14, h15, h16⟩ := id hT
  show V p l e rm_pl_penaltiesOf u m args below meth c 5 w LL CC 0 0 (MQ below (zQl w LL CC (pnG σ S n) (σ) u.heap.size) args u 0 0 (zA w LL.1 u.heap.size)) 0 [(0, .ref (w.1 21)), (1, .int (zI ((S : Int))))] [] σ
  refine V_lconst C 0 d_pl_penaltiesOf_0 rfl ?_
  refine V_lstore_n (lv' := [(2, _), (0, _), (1, _)]) C d_pl_penaltiesOf_1 (by decide) rfl ?_
  refine V_iconst C d_pl_penaltiesOf_2 ?_
  refine V_istore (lv' := [(4, _), (2, _), (0, _), (1, _)]) C d_pl_penaltiesOf_3 (by decide) rfl ?_
  refine V_sub (lv' := [(4, _), (2, _), (0, _), (1, _)]) [0, 1, 2, 3] rfl ?_
  refine loopUp (n := n) (P := fun i => V p l e rm_pl_penaltiesOf u m args below meth c 5 w LL CC 0 0 (MQ below (zQl w LL CC (pnG σ S n) (σ) u.heap.size) args u 0 0 (zA w LL.1 u.heap.size)) 5 [(4, .int (zI ((i : Int)))), (2, .long (zL (pnG σ S i))), (0, .ref (w.1 21)), (1, .int (zI ((S : Int))))] [] (σ)) (fun i hii ihi => ?_) 0 (Nat.zero_le _)
  show V p l e rm_pl_penaltiesOf u m args below meth c 5 w LL CC 0 0 (MQ below (zQl w LL CC (pnG σ S n) (σ) u.heap.size) args u 0 0 (zA w LL.1 u.heap.size)) 5 [(4, .int (zI ((i : Int)))), (2, .long (zL (pnG σ S i))), (0, .ref (w.1 21)), (1, .int (zI ((S : Int))))] [] (σ)
  refine V_iload C d_pl_penaltiesOf_5 0 rfl ?_
  refine V_aload_n C d_pl_penaltiesOf_7 2 rfl ?_
  refine V_getr C 21 0 1 (by decide) rfl rfl in_pl (by decide) rfl wd_138 d_pl_penaltiesOf_8 ?_
  refine V_geti C 1 0 (by decide) rfl rfl in_td (by decide) rfl wd_31 d_pl_penaltiesOf_11 ?_
  refine V_ti hn ?_
  refine V_cmpge C 45 d_pl_penaltiesOf_14 (by decide) ⟨by omega, by omega⟩ ⟨by omega, by omega⟩ (fun he => ?_) (fun he => ?_)
  · have hin : i = n := by omega
    subst hin
    refine V_lload_n C d_pl_penaltiesOf_45 1 rfl ?_
    exact V_lret C hr d_pl_penaltiesOf_46 rfl rfl
  · have hin : i < n := by omega
    refine V_iload_n C d_pl_penaltiesOf_17 3 rfl ?_
    refine V_iload C d_pl_penaltiesOf_18 0 rfl ?_
    refine V_callNi C (c_rp_holds l w σ S i hS (by omega)) ns_2 wd_285 wd_1 wd_286 o_rp_holds ⟨rfl, rfl, Nat.le_of_ble_eq_true rfl, Nat.le_of_ble_eq_true rfl⟩ rfl rfl (Nat.le_of_ble_eq_true rfl) d_pl_penaltiesOf_20 ⟨Nat.zero_le _, Nat.zero_le _⟩ ?_
    refine V_ifeqB C 39 d_pl_penaltiesOf_23 (by decide) (fun hb => ?_) (fun hb => ?_)
    · refine V_iinc (lv' := [(4, _), (2, _), (0, _), (1, _)]) C d_pl_penaltiesOf_39 0 rfl (by decide) rfl ?_
      refine V_goto C 5 d_pl_penaltiesOf_42 (by decide) ?_
      refine V_sub (lv' := [(4, _), (2, _), (0, _), (1, _)]) [0, 1, 2, 3] rfl ?_
      have h99 := ihi hin
      first | (rw [pnG_f hb] at h99; exact h99) | (rw [pnG_t hb] at h99; exact h99)
    · refine V_lload_n C d_pl_penaltiesOf_26 1 rfl ?_
      refine V_aload_n C d_pl_penaltiesOf_27 2 rfl ?_
      refine V_getr C 21 0 1 (by decide) rfl rfl in_pl (by decide) rfl wd_138 d_pl_penaltiesOf_28 ?_
      refine V_getr C 1 6 6 (by decide) rfl rfl in_td (by decide) rfl wd_52 d_pl_penaltiesOf_31 ?_
      refine V_iload C d_pl_penaltiesOf_34 0 rfl ?_
      refine V_lald C 6 _ (by decide) rfl rfl (by omega) (by decide) d_pl_penaltiesOf_36 ?_
      refine V_ladd C d_pl_penaltiesOf_37 ?_
      refine V_lstore_n (lv' := [(2, _), (4, _), (0, _), (1, _)]) C d_pl_penaltiesOf_38 (by decide) rfl ?_
      refine V_iinc (lv' := [(4, _), (2, _), (0, _), (1, _)]) C d_pl_penaltiesOf_39 1 rfl (by decide) rfl ?_
      refine V_goto C 5 d_pl_penaltiesOf_42 (by decide) ?_
      refine V_sub (lv' := [(4, _), (2, _), (0, _), (1, _)]) [0, 1, 2, 3] rfl ?_
      have h99 := ihi hin
      first | (rw [pnG_f hb] at h99; exact h99) | (rw [pnG_t hb] at h99; exact h99)

set_option maxRecDepth 20000 in
set_option maxHeartbeats 4000000 in
theorem c_pl_codeOfOnes (l : Launch) (w : zW) (σ : Nat → Nat → Int) (n nv : Nat) (hT : tI σ n nv) (S : Nat) (hS : S < 128) : zMl l w LL CC g_pl_codeOfOnes rm_pl_codeOfOnes [.ref (w.1 21), .int (zI ((S : Int)))] σ (((coG S n : Nat) : Int)) (σ) := by
  refine zMl.of g_pl_codeOfOnes (by decide +kernel) (Nat.le_of_ble_eq_true rfl) rfl ?_
  intro p e u m args below meth c C hr
  have C : zC p u m args meth c prog_3_method_5_code 5 "RoundPlans$Plans" w LL CC := C
  have hr : meth.sig.returnType = (some .long) := hr
  obtain ⟨hn, hn7, hv, hv3, h2, h3, h4, h5, h6, h7, h8, h9, h10, h11, h12, h13, h14, h15, h16⟩ := id hT
  show V p l e rm_pl_codeOfOnes u m args below meth c 5 w LL CC 0 0 (MQ below (zQl w LL CC (((coG S n : Nat) : Int)) (σ) u.heap.size) args u 0 0 (zA w LL.1 u.heap.size)) 0 [(0, .ref (w.1 21)), (1, .int (zI ((S : Int))))] [] σ
  refine V_lconst C 0 d_pl_codeOfOnes_0 rfl ?_
  refine V_lstore_n (lv' := [(2, _), (0, _), (1, _)]) C d_pl_codeOfOnes_1 (by decide) rfl ?_
  refine V_iconst C d_pl_codeOfOnes_2 ?_
  refine V_istore (lv' := [(4, _), (2, _), (0, _), (1, _)]) C d_pl_codeOfOnes_3 (by decide) rfl ?_
  refine V_sub (lv' := [(4, _), (2, _), (0, _), (1, _)]) [0, 1, 2, 3] rfl ?_
  refine loopUp (n := n) (P := fun i => V p l e rm_pl_codeOfOnes u m args below meth c 5 w LL CC 0 0 (MQ below (zQl w LL CC (((coG S n : Nat) : Int)) (σ) u.heap.size) args u 0 0 (zA w LL.1 u.heap.size)) 5 [(4, .int (zI ((i : Int)))), (2, .long (zL (((coG S i : Nat) : Int)))), (0, .ref (w.1 21)), (1, .int (zI ((S : Int))))] [] (σ)) (fun i hii ihi => ?_) 0 (Nat.zero_le _)
  show V p l e rm_pl_codeOfOnes u m args below meth c 5 w LL CC 0 0 (MQ below (zQl w LL CC (((coG S n : Nat) : Int)) (σ) u.heap.size) args u 0 0 (zA w LL.1 u.heap.size)) 5 [(4, .int (zI ((i : Int)))), (2, .long (zL (((coG S i : Nat) : Int)))), (0, .ref (w.1 21)), (1, .int (zI ((S : Int))))] [] (σ)
  refine V_iload C d_pl_codeOfOnes_5 0 rfl ?_
  refine V_aload_n C d_pl_codeOfOnes_7 2 rfl ?_
  refine V_getr C 21 0 1 (by decide) rfl rfl in_pl (by decide) rfl wd_138 d_pl_codeOfOnes_8 ?_
  refine V_geti C 1 0 (by decide) rfl rfl in_td (by decide) rfl wd_31 d_pl_codeOfOnes_11 ?_
  refine V_ti hn ?_
  refine V_cmpge C 42 d_pl_codeOfOnes_14 (by decide) ⟨by omega, by omega⟩ ⟨by omega, by omega⟩ (fun he => ?_) (fun he => ?_)
  · have hin : i = n := by omega
    subst hin
    refine V_lload_n C d_pl_codeOfOnes_42 1 rfl ?_
    exact V_lret C hr d_pl_codeOfOnes_43 rfl rfl
  · have hin : i < n := by omega
    refine V_iload_n C d_pl_codeOfOnes_17 3 rfl ?_
    refine V_iload C d_pl_codeOfOnes_18 0 rfl ?_
    refine V_callNi C (c_rp_holds l w σ S i hS (by omega)) ns_2 wd_285 wd_1 wd_286 o_rp_holds ⟨rfl, rfl, Nat.le_of_ble_eq_true rfl, Nat.le_of_ble_eq_true rfl⟩ rfl rfl (Nat.le_of_ble_eq_true rfl) d_pl_codeOfOnes_20 ⟨Nat.zero_le _, Nat.zero_le _⟩ ?_
    refine V_ifeqB C 36 d_pl_codeOfOnes_23 (by decide) (fun hb => ?_) (fun hb => ?_)
    · refine V_iinc (lv' := [(4, _), (2, _), (0, _), (1, _)]) C d_pl_codeOfOnes_36 0 rfl (by decide) rfl ?_
      refine V_goto C 5 d_pl_codeOfOnes_39 (by decide) ?_
      refine V_sub (lv' := [(4, _), (2, _), (0, _), (1, _)]) [0, 1, 2, 3] rfl ?_
      have h99 := ihi hin
      first | (rw [coG_f hb] at h99; exact h99) | (rw [coG_t hb] at h99; exact h99)
    · refine V_lload_n C d_pl_codeOfOnes_26 1 rfl ?_
      refine V_lconst C 1 d_pl_codeOfOnes_27 rfl ?_
      refine V_iload C d_pl_codeOfOnes_28 0 rfl ?_
      refine V_callNi C (c_rp_codeShift l w σ i (by omega)) ns_3 wd_335 wd_1 wd_336 o_rp_codeShift ⟨rfl, rfl, Nat.le_of_ble_eq_true rfl, Nat.le_of_ble_eq_true rfl⟩ rfl rfl (Nat.le_of_ble_eq_true rfl) d_pl_codeOfOnes_30 ⟨Nat.zero_le _, Nat.zero_le _⟩ ?_
      refine V_lshl C (((2 ^ (2 * (6 - i)) : Nat) : Int)) d_pl_codeOfOnes_33 ((zL_shl 1 (by omega)).trans (by rw [Int.one_mul, Int.natCast_pow]; rfl)) ?_
      refine V_ladd C d_pl_codeOfOnes_34 ?_
      refine V_tl (b := ((coG S i + 2 ^ (2 * (6 - i)) : Nat) : Int)) (by omega) ?_
      refine V_lstore_n (lv' := [(2, _), (4, _), (0, _), (1, _)]) C d_pl_codeOfOnes_35 (by decide) rfl ?_
      refine V_iinc (lv' := [(4, _), (2, _), (0, _), (1, _)]) C d_pl_codeOfOnes_36 1 rfl (by decide) rfl ?_
      refine V_goto C 5 d_pl_codeOfOnes_39 (by decide) ?_
      refine V_sub (lv' := [(4, _), (2, _), (0, _), (1, _)]) [0, 1, 2, 3] rfl ?_
      have h99 := ihi hin
      first | (rw [coG_f hb] at h99; exact h99) | (rw [coG_t hb] at h99; exact h99)

set_option maxRecDepth 20000 in
set_option maxHeartbeats 4000000 in
theorem c_pl_findPrice (l : Launch) (w : zW) (σ : Nat → Nat → Int) (n nv : Nat) (hT : tI σ n nv) (v S : Nat) (hv0 : v < 3) (hS : S < 128) (h18 : bd σ 18 384 0 1073741824) : zMl l w LL CC g_pl_findPrice rm_pl_findPrice [.ref (w.1 21), .int (zI ((v : Int))), .int (zI ((S : Int))), .long (zL (((coG S n : Nat) : Int)))] σ (fpr σ n v S) (σ) := by
  refine zMl.of g_pl_findPrice (by decide +kernel) (Nat.le_of_ble_eq_true rfl) rfl ?_
  intro p e u m args below meth c C hr
  have C : zC p u m args meth c prog_3_method_3_code 8 "RoundPlans$Plans" w LL CC := C
  have hr : meth.sig.returnType = (some .long) := hr
  obtain ⟨hn, hn7, hv, hv3, h2, h3, h4, h5, h6, h7, h8, h9, h10, h11, h12, h13, h14, h15, h16⟩ := id hT
  show V p l e rm_pl_findPrice u m args below meth c 8 w LL CC 0 0 (MQ below (zQl w LL CC (fpr σ n v S) (σ) u.heap.size) args u 0 0 (zA w LL.1 u.heap.size)) 0 [(0, .ref (w.1 21)), (1, .int (zI ((v : Int)))), (2, .int (zI ((S : Int)))), (3, .long (zL (((coG S n : Nat) : Int))))] [] σ
  refine V_aload_n C d_pl_findPrice_0 0 rfl ?_
  refine V_getr C 21 1 17 (by decide) rfl rfl in_pl (by decide) rfl wd_139 d_pl_findPrice_1 ?_
  refine V_iload_n C d_pl_findPrice_4 1 rfl ?_
  refine V_iload_n C d_pl_findPrice_5 2 rfl ?_
  refine V_callVi C 17 (by decide) rfl rfl (c_rd_firstBack l w σ v S hv0 hS) wd_346 wd_347 wd_348 wd_4 wd_349 o_rd_firstBack ⟨rfl, rfl, Nat.le_of_ble_eq_true rfl, Nat.le_of_ble_eq_true rfl⟩ rfl rfl (Nat.le_of_ble_eq_true rfl) d_pl_findPrice_6 ⟨Nat.zero_le _, Nat.zero_le _⟩ ?_
  have q18 := h18 (v * 128 + S) (by omega)
  have q13 := h13 v hv0
  have q15 := h15 v hv0
  refine V_istore (lv' := [(5, _), (0, _), (1, _), (2, _), (3, _)]) C d_pl_findPrice_9 (by decide) rfl ?_
  refine V_iload C d_pl_findPrice_11 0 rfl ?_
  refine V_ldc C (1073741824) d_pl_findPrice_13 wd_350 ?_
  refine V_cmpne C 22 d_pl_findPrice_15 (by decide) ⟨by omega, by omega⟩ ⟨by omega, by omega⟩ (fun g1 => ?_) (fun g1 => ?_)
  · refine V_iload C d_pl_findPrice_22 0 rfl ?_
    refine V_aload_n C d_pl_findPrice_24 1 rfl ?_
    refine V_getr C 21 0 1 (by decide) rfl rfl in_pl (by decide) rfl wd_138 d_pl_findPrice_25 ?_
    refine V_getr C 1 13 13 (by decide) rfl rfl in_td (by decide) rfl wd_68 d_pl_findPrice_28 ?_
    refine V_iload_n C d_pl_findPrice_31 2 rfl ?_
    refine V_iald C 13 _ (by decide) rfl rfl (by omega) (by decide) d_pl_findPrice_32 ?_
    refine V_isub C d_pl_findPrice_33 ?_
    refine V_i2l C d_pl_findPrice_34 ⟨by omega, by omega⟩ ?_
    refine V_lstore (lv' := [(6, _), (5, _), (0, _), (1, _), (2, _), (3, _)]) C d_pl_findPrice_35 (by decide) rfl ?_
    refine V_aload_n C d_pl_findPrice_37 2 rfl ?_
    refine V_getr C 21 0 1 (by decide) rfl rfl in_pl (by decide) rfl wd_138 d_pl_findPrice_38 ?_
    refine V_getr C 1 15 15 (by decide) rfl rfl in_td (by decide) rfl wd_73 d_pl_findPrice_41 ?_
    refine V_iload_n C d_pl_findPrice_44 3 rfl ?_
    refine V_iald C 15 _ (by decide) rfl rfl (by omega) (by decide) d_pl_findPrice_45 ?_
    refine V_i2l C d_pl_findPrice_46 ⟨by omega, by omega⟩ ?_
    refine V_lload C d_pl_findPrice_47 0 rfl ?_
    refine V_lmul C d_pl_findPrice_49 ?_
    refine V_bipush C d_pl_findPrice_50 (by decide) ?_
    refine V_lshl C (σ 15 v * (σ 18 (v * 128 + S) - σ 13 v) * 2 ^ 14) d_pl_findPrice_52 (zL_shl _ (k := 14) (by decide)) ?_
    refine V_iload_n C d_pl_findPrice_53 3 rfl ?_
    refine V_i2l C d_pl_findPrice_54 ⟨by omega, by omega⟩ ?_
    refine V_lload_n C d_pl_findPrice_55 5 rfl ?_
    refine V_lmul C d_pl_findPrice_56 ?_
    refine V_ladd C d_pl_findPrice_57 ?_
    exact V_lret C hr d_pl_findPrice_58 (by unfold fpr; rw [if_neg g1]) rfl
  · refine V_ldc2 C (1152921504606846976) d_pl_findPrice_18 wd_351 ?_
    exact V_lret C hr d_pl_findPrice_21 (by unfold fpr; rw [if_pos g1]) rfl

set_option maxRecDepth 20000 in
set_option maxHeartbeats 4000000 in
theorem c_pl_findPrices (l : Launch) (w : zW) (σ : Nat → Nat → Int) (n nv : Nat) (hT : tI σ n nv) (h18 : bd σ 18 384 0 1073741824) : zMv l w LL CC g_pl_findPrices rm_pl_findPrices [.ref (w.1 21)] σ (fpO σ n nv (2 ^ n - 1)) := by
  refine zMv.of g_pl_findPrices (by decide +kernel) (Nat.le_of_ble_eq_true rfl) rfl ?_
  intro p e u m args below meth c C hr
  have C : zC p u m args meth c prog_3_method_2_code 5 "RoundPlans$Plans" w LL CC := C
  have hr : meth.sig.returnType = none := hr
  obtain ⟨hn, hn7, hv, hv3, h2, h3, h4, h5, h6, h7, h8, h9, h10, h11, h12, h13, h14, h15, h16⟩ := id hT
  have hp := pow_n hn7
  show V p l e rm_pl_findPrices u m args below meth c 5 w LL CC 0 0 (MQ below (zQv w LL CC (fpO σ n nv (2 ^ n - 1)) u.heap.size) args u 0 0 (zA w LL.1 u.heap.size)) 0 [(0, .ref (w.1 21))] [] σ
  refine V_iconst C d_pl_findPrices_0 ?_
  refine V_istore_n (lv' := [(1, _), (0, _)]) C d_pl_findPrices_1 (by decide) rfl ?_
  refine V_sub (lv' := [(1, _), (0, _)]) [0, 1] rfl ?_
  refine loopUp (n := 2 ^ n - 1) (P := fun j => V p l e rm_pl_findPrices u m args below meth c 5 w LL CC 0 0 (MQ below (zQv w LL CC (fpO σ n nv (2 ^ n - 1)) u.heap.size) args u 0 0 (zA w LL.1 u.heap.size)) 2 [(1, .int (zI (((j + 1 : Nat) : Int)))), (0, .ref (w.1 21))] [] (fpO σ n nv j)) (fun j hij ihj => ?_) 0 (Nat.zero_le _)
  show V p l e rm_pl_findPrices u m args below meth c 5 w LL CC 0 0 (MQ below (zQv w LL CC (fpO σ n nv (2 ^ n - 1)) u.heap.size) args u 0 0 (zA w LL.1 u.heap.size)) 2 [(1, .int (zI (((j + 1 : Nat) : Int)))), (0, .ref (w.1 21))] [] (fpO σ n nv j)
  refine V_iload_n C d_pl_findPrices_2 0 rfl ?_
  refine V_iconst C d_pl_findPrices_3 ?_
  refine V_aload_n C d_pl_findPrices_4 1 rfl ?_
  refine V_getr C 21 0 1 (by decide) rfl rfl in_pl (by decide) rfl wd_138 d_pl_findPrices_5 ?_
  refine V_geti C 1 0 (by decide) rfl rfl in_td (by decide) rfl wd_31 d_pl_findPrices_8 ?_
  refine V_ti (b := (n : Int)) (by rw [fpO_ne (by decide) (by decide)]; exact hn) ?_
  refine V_ishl C (((2 ^ n : Nat) : Int)) d_pl_findPrices_11 (zI_shl1 (by omega)) ?_
  refine V_cmpge C 89 d_pl_findPrices_12 (by decide) ⟨by omega, by omega⟩ ⟨by omega, by omega⟩ (fun hj => ?_) (fun hj => ?_)
  · have hjj : j = 2 ^ n - 1 := by omega
    subst hjj
    exact V_vret C hr d_pl_findPrices_89 rfl
  · have hjn : j < 2 ^ n - 1 := by omega
    have hTj : tI (fpO σ n nv j) n nv := hT.congr (fun k hk => fpO_ne (by omega) (by omega) j)
    refine V_aload_n C d_pl_findPrices_15 1 rfl ?_
    refine V_iload_n C d_pl_findPrices_16 0 rfl ?_
    refine V_callVl C 21 (by decide) rfl rfl (c_pl_codeOfOnes l w _ n nv hTj (j + 1) (by omega)) wd_329 wd_331 ws_3 wd_5 wd_332 o_pl_codeOfOnes ⟨rfl, rfl, Nat.le_of_ble_eq_true rfl, Nat.le_of_ble_eq_true rfl⟩ rfl rfl (Nat.le_of_ble_eq_true rfl) d_pl_findPrices_17 ⟨Nat.zero_le _, Nat.zero_le _⟩ ?_
    refine V_lstore_n (lv' := [(2, _), (1, _), (0, _)]) C d_pl_findPrices_20 (by decide) rfl ?_
    refine V_aload_n C d_pl_findPrices_21 2 rfl ?_
    refine V_getr C 21 3 23 (by decide) rfl rfl in_pl (by decide) rfl wd_141 d_pl_findPrices_22 ?_
    refine V_iload_n C d_pl_findPrices_25 1 rfl ?_
    refine V_aload_n C d_pl_findPrices_26 2 rfl ?_
    refine V_iload_n C d_pl_findPrices_27 1 rfl ?_
    refine V_callVl C 21 (by decide) rfl rfl (c_pl_penaltiesOf l w _ n nv hTj (j + 1) (by omega)) wd_337 wd_339 ws_4 wd_5 wd_340 o_pl_penaltiesOf ⟨rfl, rfl, Nat.le_of_ble_eq_true rfl, Nat.le_of_ble_eq_true rfl⟩ rfl rfl (Nat.le_of_ble_eq_true rfl) d_pl_findPrices_28 ⟨Nat.zero_le _, Nat.zero_le _⟩ ?_
    refine V_tl (pnG_congr (fpO_ne (by decide) (by decide) j) n) ?_
    refine V_bipush C d_pl_findPrices_31 (by decide) ?_
    refine V_lshl C (pnG σ (j + 1) n * 2 ^ 14) d_pl_findPrices_33 (zL_shl _ (k := 14) (by decide)) ?_
    refine V_ldc2 C (3) d_pl_findPrices_34 wd_341 ?_
    refine V_lload_n C d_pl_findPrices_37 0 rfl ?_
    refine V_lmul C d_pl_findPrices_38 ?_
    refine V_ladd C d_pl_findPrices_39 ?_
    refine V_last C 23 (j + 1) (by decide) rfl rfl (by omega) (by decide) d_pl_findPrices_40 ?_
    have hTs : tI (zU (fpO σ n nv j) 23 (j + 1) (fsk σ n (j + 1))) n nv := hTj.congr (fun k hk => zU_ne (by omega))
    refine V_iconst C d_pl_findPrices_41 ?_
    refine V_istore (lv' := [(4, _), (2, _), (1, _), (0, _)]) C d_pl_findPrices_42 (by decide) rfl ?_
    refine V_sub (lv' := [(4, _), (2, _), (1, _), (0, _)]) [0, 1, 2, 3] rfl ?_
    refine loopUp (n := nv) (P := fun x => V p l e rm_pl_findPrices u m args below meth c 5 w LL CC 0 0 (MQ below (zQv w LL CC (fpO σ n nv (2 ^ n - 1)) u.heap.size) args u 0 0 (zA w LL.1 u.heap.size)) 44 [(4, .int (zI ((x : Int)))), (2, .long (zL (((coG (j + 1) n : Nat) : Int)))), (1, .int (zI (((j + 1 : Nat) : Int)))), (0, .ref (w.1 21))] [] (fpI (zU (fpO σ n nv j) 23 (j + 1) (fsk σ n (j + 1))) n (j + 1) x)) (fun x hix ihx => ?_) 0 (Nat.zero_le _)
    show V p l e rm_pl_findPrices u m args below meth c 5 w LL CC 0 0 (MQ below (zQv w LL CC (fpO σ n nv (2 ^ n - 1)) u.heap.size) args u 0 0 (zA w LL.1 u.heap.size)) 44 [(4, .int (zI ((x : Int)))), (2, .long (zL (((coG (j + 1) n : Nat) : Int)))), (1, .int (zI (((j + 1 : Nat) : Int)))), (0, .ref (w.1 21))] [] (fpI (zU (fpO σ n nv j) 23 (j + 1) (fsk σ n (j + 1))) n (j + 1) x)
    refine V_iload C d_pl_findPrices_44 0 rfl ?_
    refine V_aload_n C d_pl_findPrices_46 3 rfl ?_
    refine V_getr C 21 0 1 (by decide) rfl rfl in_pl (by decide) rfl wd_138 d_pl_findPrices_47 ?_
    refine V_geti C 1 1 (by decide) rfl rfl in_td (by decide) rfl wd_34 d_pl_findPrices_50 ?_
    refine V_ti (b := (nv : Int)) (by rw [fpI_ne (by decide), zU_ne (by decide), fpO_ne (by decide) (by decide)]; exact hv) ?_
    refine V_cmpge C 83 d_pl_findPrices_53 (by decide) ⟨by omega, by omega⟩ ⟨by omega, by omega⟩ (fun hx => ?_) (fun hx => ?_)
    · have hxx : x = nv := by omega
      subst hxx
      refine V_iinc (lv' := [(1, _), (4, _), (2, _), (0, _)]) C d_pl_findPrices_83 2 rfl (by decide) rfl ?_
      refine V_goto C 2 d_pl_findPrices_86 (by decide) ?_
      refine V_sub (lv' := [(1, _), (0, _)]) [0, 3] rfl ?_
      exact ihj hjn
    · have hxn : x < nv := by omega
      have hTx : tI (fpI (zU (fpO σ n nv j) 23 (j + 1) (fsk σ n (j + 1))) n (j + 1) x) n nv := hTs.congr (fun k hk => fpI_ne (by omega) x)
      refine V_aload_n C d_pl_findPrices_56 3 rfl ?_
      refine V_getr C 21 2 22 (by decide) rfl rfl in_pl (by decide) rfl wd_140 d_pl_findPrices_57 ?_
      refine V_iload C d_pl_findPrices_60 0 rfl ?_
      refine V_sipush C d_pl_findPrices_62 (by decide) ?_
      refine V_imul C d_pl_findPrices_65 ?_
      refine V_iload_n C d_pl_findPrices_66 2 rfl ?_
      refine V_iadd C d_pl_findPrices_67 ?_
      refine V_aload_n C d_pl_findPrices_68 3 rfl ?_
      refine V_iload C d_pl_findPrices_69 0 rfl ?_
      refine V_iload_n C d_pl_findPrices_71 2 rfl ?_
      refine V_lload_n C d_pl_findPrices_72 1 rfl ?_
      refine V_callVl C 21 (by decide) rfl rfl (c_pl_findPrice l w _ n nv hTx x (j + 1) (by omega) (by omega) (by intro i hi; rw [fpI_ne (by decide), zU_ne (by decide), fpO_ne (by decide) (by decide)]; exact h18 i hi)) wd_342 wd_344 ws_5 wd_5 wd_345 o_pl_findPrice ⟨rfl, rfl, Nat.le_of_ble_eq_true rfl, Nat.le_of_ble_eq_true rfl⟩ rfl rfl (Nat.le_of_ble_eq_true rfl) d_pl_findPrices_73 ⟨Nat.zero_le _, Nat.zero_le _⟩ ?_
      refine V_tl (fpr_congr (σ := zU (fpO σ n nv j) 23 (j + 1) (fsk σ n (j + 1))) (fpI_ne (by decide) x) (fpI_ne (by decide) x) (fpI_ne (by decide) x)) ?_
      refine V_last C 22 (x * 128 + (j + 1)) (by decide) rfl (by omega) (by omega) (by decide) d_pl_findPrices_76 ?_
      refine V_iinc (lv' := [(4, _), (2, _), (1, _), (0, _)]) C d_pl_findPrices_77 0 rfl (by decide) rfl ?_
      refine V_goto C 44 d_pl_findPrices_80 (by decide) ?_
      refine V_sub (lv' := [(4, _), (2, _), (1, _), (0, _)]) [0, 1, 2, 3] rfl ?_
      exact ihx hxn

set_option maxRecDepth 20000 in
set_option maxHeartbeats 4000000 in
theorem c_pl_leastWith (l : Launch) (w : zW) (σ : Nat → Nat → Int) (v S : Nat) (hv0 : v < 3) (hS : S < 128) (h22 : bd σ 22 384 (-1125899906842624) 1152921504606846976) (h24 : bd σ 24 128 (-3377699720527872) 1125899906842624) : zMl l w LL CC g_pl_leastWith rm_pl_leastWith [.ref (w.1 21), .int (zI ((v : Int))), .int (zI ((S : Int)))] σ (lwG σ v S) (σ) := by
  refine zMl.of g_pl_leastWith (by decide +kernel) (Nat.le_of_ble_eq_true rfl) rfl ?_
  intro p e u m args below meth c C hr
  have C : zC p u m args meth c prog_3_method_8_code 6 "RoundPlans$Plans" w LL CC := C
  have hr : meth.sig.returnType = (some .long) := hr
  show V p l e rm_pl_leastWith u m args below meth c 6 w LL CC 0 0 (MQ below (zQl w LL CC (lwG σ v S) (σ) u.heap.size) args u 0 0 (zA w LL.1 u.heap.size)) 0 [(0, .ref (w.1 21)), (1, .int (zI ((v : Int)))), (2, .int (zI ((S : Int))))] [] σ
  refine V_aload_n C d_pl_leastWith_0 0 rfl ?_
  refine V_getr C 21 4 24 (by decide) rfl rfl in_pl (by decide) rfl wd_142 d_pl_leastWith_1 ?_
  refine V_iload_n C d_pl_leastWith_4 2 rfl ?_
  refine V_lald C 24 _ (by decide) rfl rfl (by omega) (by decide) d_pl_leastWith_5 ?_
  refine V_lstore_n (lv' := [(3, _), (0, _), (1, _), (2, _)]) C d_pl_leastWith_6 (by decide) rfl ?_
  refine V_iload_n C d_pl_leastWith_7 3 rfl ?_
  refine V_istore (lv' := [(5, _), (3, _), (0, _), (1, _), (2, _)]) C d_pl_leastWith_8 (by decide) rfl ?_
  refine V_sub (lv' := [(5, _), (3, _), (0, _), (1, _), (2, _)]) [0, 1, 2, 3, 4] rfl ?_
  refine Nat.strongRecOn (motive := fun k => ∀ (Q : Nat) (x : Int), Q ≤ k → Q ≤ S → -4503599627370496 ≤ x ∧ x ≤ 1125899906842624 → lwF S (fun P => σ 22 (v * 128 + P)) (σ 24) k Q x = lwG σ v S → V p l e rm_pl_leastWith u m args below meth c 6 w LL CC 0 0 (MQ below (zQl w LL CC (lwG σ v S) (σ) u.heap.size) args u 0 0 (zA w LL.1 u.heap.size)) 10 [(5, .int (zI (Q : Int))), (3, .long (zL x)), (0, .ref (w.1 21)), (1, .int (zI (v : Int))), (2, .int (zI (S : Int)))] [] σ) S (fun k ihk => ?_) S (σ 24 S) (Nat.le_refl _) (Nat.le_refl _) (by have := h24 S hS; omega) rfl
  intro Q x hQk hQS hx hE
  show V p l e rm_pl_leastWith u m args below meth c 6 w LL CC 0 0 (MQ below (zQl w LL CC (lwG σ v S) (σ) u.heap.size) args u 0 0 (zA w LL.1 u.heap.size)) 10 [(5, .int (zI (Q : Int))), (3, .long (zL x)), (0, .ref (w.1 21)), (1, .int (zI (v : Int))), (2, .int (zI (S : Int)))] [] σ
  refine V_iload C d_pl_leastWith_10 0 rfl ?_
  refine V_ifle C 54 d_pl_leastWith_12 (by decide) ⟨by omega, by omega⟩ (fun g0 => ?_) (fun g0 => ?_)
  · have hQ0 : Q = 0 := by omega
    refine V_lload_n C d_pl_leastWith_54 1 rfl ?_
    exact V_lret C hr d_pl_leastWith_55 (by rw [← hE]; cases k with | zero => rfl | succ k => rw [lwF, if_pos hQ0]) rfl
  · have hQ0 : ¬ Q = 0 := by omega
    obtain ⟨k, rfl⟩ : ∃ k1, k = k1 + 1 := ⟨k - 1, by omega⟩
    have q22 := h22 (v * 128 + Q) (by omega)
    have q24 := h24 (S - Q) (by omega)
    refine V_lload_n C d_pl_leastWith_15 1 rfl ?_
    refine V_aload_n C d_pl_leastWith_16 2 rfl ?_
    refine V_getr C 21 2 22 (by decide) rfl rfl in_pl (by decide) rfl wd_140 d_pl_leastWith_17 ?_
    refine V_iload_n C d_pl_leastWith_20 3 rfl ?_
    refine V_sipush C d_pl_leastWith_21 (by decide) ?_
    refine V_imul C d_pl_leastWith_24 ?_
    refine V_iload C d_pl_leastWith_25 0 rfl ?_
    refine V_iadd C d_pl_leastWith_27 ?_
    refine V_lald C 22 (v * 128 + Q) (by decide) rfl (by omega) (by omega) (by decide) d_pl_leastWith_28 ?_
    refine V_aload_n C d_pl_leastWith_29 2 rfl ?_
    refine V_getr C 21 4 24 (by decide) rfl rfl in_pl (by decide) rfl wd_142 d_pl_leastWith_30 ?_
    refine V_iload_n C d_pl_leastWith_33 4 rfl ?_
    refine V_iload C d_pl_leastWith_34 0 rfl ?_
    refine V_isub C d_pl_leastWith_36 ?_
    refine V_lald C 24 (S - Q) (by decide) rfl (by omega) (by omega) (by decide) d_pl_leastWith_37 ?_
    refine V_ladd C d_pl_leastWith_38 ?_
    refine V_lmin C wd_367 wd_368 wd_8 wd_369 (Nat.le_of_ble_eq_true rfl) (Nat.le_of_ble_eq_true rfl) (Nat.zero_le _) (Nat.zero_le _) ⟨by omega, by omega⟩ ⟨by omega, by omega⟩ d_pl_leastWith_39 ?_
    refine V_lstore_n (lv' := [(3, _), (5, _), (0, _), (1, _), (2, _)]) C d_pl_leastWith_42 (by decide) rfl ?_
    refine V_iload C d_pl_leastWith_43 1 rfl ?_
    refine V_iconst C d_pl_leastWith_45 ?_
    refine V_isub C d_pl_leastWith_46 ?_
    refine V_ti (b := ((Q - 1 : Nat) : Int)) (by omega) ?_
    refine V_iload_n C d_pl_leastWith_47 4 rfl ?_
    refine V_iand C ((((Q - 1) &&& S : Nat) : Int)) d_pl_leastWith_48 (zI_and _ _) ?_
    refine V_istore (lv' := [(5, _), (3, _), (0, _), (1, _), (2, _)]) C d_pl_leastWith_49 (by decide) rfl ?_
    refine V_goto C 10 d_pl_leastWith_51 (by decide) ?_
    refine V_sub (lv' := [(5, _), (3, _), (0, _), (1, _), (2, _)]) [0, 1, 2, 3, 4] rfl ?_
    have hle : (Q - 1) &&& S ≤ Q - 1 := Nat.and_le_left
    refine ihk k (by omega) ((Q - 1) &&& S) _ (by omega) (by omega) ⟨by omega, by omega⟩ ?_
    rw [← hE, lwF, if_neg hQ0]

set_option maxRecDepth 20000 in
set_option maxHeartbeats 4000000 in
theorem c_pl_addRounds (l : Launch) (w : zW) (σ : Nat → Nat → Int) (v a : Nat) (hv0 : v < 3) (ha : a < 128) (h22 : bd σ 22 384 (-1125899906842624) 1152921504606846976) (h24 : bd (arS σ v a 0) 24 128 (-3377699720527872) 1125899906842624) (h24b : bd σ 24 128 (-3377699720527872) 1125899906842624) : zMv l w LL CC g_pl_addRounds rm_pl_addRounds [.ref (w.1 21), .int (zI ((v : Int))), .int (zI ((a : Int)))] σ (arS σ v a 0) := by
  refine zMv.of g_pl_addRounds (by decide +kernel) (Nat.le_of_ble_eq_true rfl) rfl ?_
  intro p e u m args below meth c C hr
  have C : zC p u m args meth c prog_3_method_7_code 4 "RoundPlans$Plans" w LL CC := C
  have hr : meth.sig.returnType = none := hr
  show V p l e rm_pl_addRounds u m args below meth c 4 w LL CC 0 0 (MQ below (zQv w LL CC (arS σ v a 0) u.heap.size) args u 0 0 (zA w LL.1 u.heap.size)) 0 [(0, .ref (w.1 21)), (1, .int (zI ((v : Int)))), (2, .int (zI ((a : Int))))] [] σ
  refine V_iload_n C d_pl_addRounds_0 2 rfl ?_
  refine V_istore_n (lv' := [(3, _), (0, _), (1, _), (2, _)]) C d_pl_addRounds_1 (by decide) rfl ?_
  refine V_sub (lv' := [(3, _), (0, _), (1, _), (2, _)]) [0, 1, 2, 3] rfl ?_
  refine V_ss (arS_top (σ := σ) (v := v) (a := a)).symm ?_
  refine Nat.strongRecOn (motive := fun j => j ≤ a → V p l e rm_pl_addRounds u m args below meth c 4 w LL CC 0 0 (MQ below (zQv w LL CC (arS σ v a 0) u.heap.size) args u 0 0 (zA w LL.1 u.heap.size)) 2 [(3, .int (zI (j : Int))), (0, .ref (w.1 21)), (1, .int (zI (v : Int))), (2, .int (zI (a : Int)))] [] (arS σ v a j)) a (fun j ihj => ?_) (Nat.le_refl a)
  intro hja
  show V p l e rm_pl_addRounds u m args below meth c 4 w LL CC 0 0 (MQ below (zQv w LL CC (arS σ v a 0) u.heap.size) args u 0 0 (zA w LL.1 u.heap.size)) 2 [(3, .int (zI (j : Int))), (0, .ref (w.1 21)), (1, .int (zI (v : Int))), (2, .int (zI (a : Int)))] [] (arS σ v a j)
  refine V_iload_n C d_pl_addRounds_2 0 rfl ?_
  refine V_ifle C 24 d_pl_addRounds_3 (by decide) ⟨by omega, by omega⟩ (fun g0 => ?_) (fun g0 => ?_)
  · have hj0 : j = 0 := by omega
    subst hj0
    exact V_vret C hr d_pl_addRounds_24 rfl
  · obtain ⟨j, rfl⟩ : ∃ j1, j = j1 + 1 := ⟨j - 1, by omega⟩
    refine V_aload_n C d_pl_addRounds_6 1 rfl ?_
    refine V_getr C 21 4 24 (by decide) rfl rfl in_pl (by decide) rfl wd_142 d_pl_addRounds_7 ?_
    refine V_iload_n C d_pl_addRounds_10 0 rfl ?_
    refine V_aload_n C d_pl_addRounds_11 1 rfl ?_
    refine V_iload_n C d_pl_addRounds_12 2 rfl ?_
    refine V_iload_n C d_pl_addRounds_13 0 rfl ?_
    refine V_callVl C 21 (by decide) rfl rfl (c_pl_leastWith l w (arS σ v a (j + 1)) v (j + 1) hv0 (by omega) (by intro i hi; unfold arS; rw [zUA_ne (by decide)]; exact h22 i hi) (by intro i hi; have e1 := h24 i hi; have e2 := h24b i hi; unfold arS at e1 ⊢; rw [zUA_self] at e1 ⊢; split; rename_i h; rw [if_pos ⟨by omega, h.2⟩] at e1; exact e1; exact e2)) wd_363 wd_365 ws_7 wd_5 wd_366 o_pl_leastWith ⟨rfl, rfl, Nat.le_of_ble_eq_true rfl, Nat.le_of_ble_eq_true rfl⟩ rfl rfl (Nat.le_of_ble_eq_true rfl) d_pl_addRounds_14 ⟨Nat.zero_le _, Nat.zero_le _⟩ ?_
    refine V_tl (arS_lw (by omega)) ?_
    refine V_last C 24 _ (by decide) rfl rfl (by omega) (by decide) d_pl_addRounds_17 ?_
    rw [arS_step (by omega)]
    refine V_iinc (lv' := [(3, _), (0, _), (1, _), (2, _)]) C d_pl_addRounds_18 0 rfl (by decide) rfl ?_
    refine V_goto C 2 d_pl_addRounds_21 (by decide) ?_
    refine V_sub (lv' := [(3, _), (0, _), (1, _), (2, _)]) [0, 1, 2, 3] rfl ?_
    have h99 := ihj j (by omega) (by omega)
    first | exact h99 | (rw [show ((j : Int)) = ((j + 1 : Nat) : Int) + -1 by omega] at h99; exact h99)

set_option maxRecDepth 20000 in
set_option maxHeartbeats 4000000 in
theorem c_pl_cheapest (l : Launch) (w : zW) (σ : Nat → Nat → Int) (n nv : Nat) (hT : tI σ n nv) (r : Int) (hr0 : rI r) (h22 : bd σ 22 384 (-1125899906842624) 1152921504606846976) (h23 : bd σ 23 128 0 1125899906842624) : zMl l w LL CC g_pl_cheapest rm_pl_cheapest [.ref (w.1 21), .int (zI (r))] σ (chV σ (2 ^ n - 1) r nv 24 (2 ^ n - 1)) (chV σ (2 ^ n - 1) r nv) := by
  refine zMl.of g_pl_cheapest (by decide +kernel) (Nat.le_of_ble_eq_true rfl) rfl ?_
  intro p e u m args below meth c C hr
  have C : zC p u m args meth c prog_3_method_6_code 4 "RoundPlans$Plans" w LL CC := C
  have hr : meth.sig.returnType = (some .long) := hr
  obtain ⟨hn, hn7, hv, hv3, h2, h3, h4, h5, h6, h7, h8, h9, h10, h11, h12, h13, h14, h15, h16⟩ := id hT
  have hp := pow_n hn7
  show V p l e rm_pl_cheapest u m args below meth c 4 w LL CC 0 0 (MQ below (zQl w LL CC (chV σ (2 ^ n - 1) r nv 24 (2 ^ n - 1)) (chV σ (2 ^ n - 1) r nv) u.heap.size) args u 0 0 (zA w LL.1 u.heap.size)) 0 [(0, .ref (w.1 21)), (1, .int (zI (r)))] [] σ
  refine V_iconst C d_pl_cheapest_0 ?_
  refine V_aload_n C d_pl_cheapest_1 0 rfl ?_
  refine V_getr C 21 0 1 (by decide) rfl rfl in_pl (by decide) rfl wd_138 d_pl_cheapest_2 ?_
  refine V_geti C 1 0 (by decide) rfl rfl in_td (by decide) rfl wd_31 d_pl_cheapest_5 ?_
  refine V_ti hn ?_
  refine V_ishl C (((2 ^ n : Nat) : Int)) d_pl_cheapest_8 (zI_shl1 (by omega)) ?_
  refine V_iconst C d_pl_cheapest_9 ?_
  refine V_isub C d_pl_cheapest_10 ?_
  refine V_ti (b := ((2 ^ n - 1 : Nat) : Int)) (by omega) ?_
  refine V_istore_n (lv' := [(2, _), (0, _), (1, _)]) C d_pl_cheapest_11 (by decide) rfl ?_
  refine V_aload_n C d_pl_cheapest_12 1 rfl ?_
  refine V_getr C 21 3 23 (by decide) rfl rfl in_pl (by decide) rfl wd_141 d_pl_cheapest_13 ?_
  refine V_iconst C d_pl_cheapest_16 ?_
  refine V_aload_n C d_pl_cheapest_17 1 rfl ?_
  refine V_getr C 21 4 24 (by decide) rfl rfl in_pl (by decide) rfl wd_142 d_pl_cheapest_18 ?_
  refine V_iconst C d_pl_cheapest_21 ?_
  refine V_sipush C d_pl_cheapest_22 (by decide) ?_
  refine V_copyl C 23 24 128 (by decide) (by decide) rfl rfl (by decide) wd_356 wd_358 wd_357 wd_9 (Nat.le_of_ble_eq_true rfl) (Nat.le_of_ble_eq_true rfl) d_pl_cheapest_25 ?_
  refine V_iconst C d_pl_cheapest_28 ?_
  refine V_istore_n (lv' := [(3, _), (2, _), (0, _), (1, _)]) C d_pl_cheapest_29 (by decide) rfl ?_
  refine V_sub (lv' := [(3, _), (2, _), (0, _), (1, _)]) [0, 1, 2, 3] rfl ?_
  refine loopUp (n := nv) (P := fun x => V p l e rm_pl_cheapest u m args below meth c 4 w LL CC 0 0 (MQ below (zQl w LL CC (chV σ (2 ^ n - 1) r nv 24 (2 ^ n - 1)) (chV σ (2 ^ n - 1) r nv) u.heap.size) args u 0 0 (zA w LL.1 u.heap.size)) 30 [(3, .int (zI ((x : Int)))), (2, .int (zI (((2 ^ n - 1 : Nat) : Int)))), (0, .ref (w.1 21)), (1, .int (zI (r)))] [] (chV σ (2 ^ n - 1) r x)) (fun x hix ihx => ?_) 0 (Nat.zero_le _)
  show V p l e rm_pl_cheapest u m args below meth c 4 w LL CC 0 0 (MQ below (zQl w LL CC (chV σ (2 ^ n - 1) r nv 24 (2 ^ n - 1)) (chV σ (2 ^ n - 1) r nv) u.heap.size) args u 0 0 (zA w LL.1 u.heap.size)) 30 [(3, .int (zI ((x : Int)))), (2, .int (zI (((2 ^ n - 1 : Nat) : Int)))), (0, .ref (w.1 21)), (1, .int (zI (r)))] [] (chV σ (2 ^ n - 1) r x)
  refine V_iload_n C d_pl_cheapest_30 0 rfl ?_
  refine V_aload_n C d_pl_cheapest_31 2 rfl ?_
  refine V_getr C 21 0 1 (by decide) rfl rfl in_pl (by decide) rfl wd_138 d_pl_cheapest_32 ?_
  refine V_geti C 1 1 (by decide) rfl rfl in_td (by decide) rfl wd_34 d_pl_cheapest_35 ?_
  refine V_ti (b := (nv : Int)) (by rw [chV_ne (by decide)]; exact hv) ?_
  refine V_cmpge C 58 d_pl_cheapest_38 (by decide) ⟨by omega, by omega⟩ ⟨by omega, by omega⟩ (fun hx => ?_) (fun hx => ?_)
  · have hxx : x = nv := by omega
    subst hxx
    refine V_aload_n C d_pl_cheapest_58 2 rfl ?_
    refine V_getr C 21 4 24 (by decide) rfl rfl in_pl (by decide) rfl wd_142 d_pl_cheapest_59 ?_
    refine V_iload_n C d_pl_cheapest_62 1 rfl ?_
    refine V_lald C 24 _ (by decide) rfl rfl (by omega) (by decide) d_pl_cheapest_63 ?_
    exact V_lret C hr d_pl_cheapest_64 rfl rfl
  · have hxn : x < nv := by omega
    have b0 := chV_bd (a := 2 ^ n - 1) (r := r) (by omega) h22 h23 x (by omega)
    have b1 := chV_bd (a := 2 ^ n - 1) (r := r) (by omega) h22 h23 (x + 1) (by omega)
    refine V_iload_n C d_pl_cheapest_41 0 rfl ?_
    refine V_iload_n C d_pl_cheapest_42 3 rfl ?_
    refine V_cmpeq C 52 d_pl_cheapest_43 (by decide) ⟨by omega, by omega⟩ hr0 (fun gr => ?_) (fun gr => ?_)
    · refine V_iinc (lv' := [(3, _), (2, _), (0, _), (1, _)]) C d_pl_cheapest_52 0 rfl (by decide) rfl ?_
      refine V_goto C 30 d_pl_cheapest_55 (by decide) ?_
      refine V_sub (lv' := [(3, _), (2, _), (0, _), (1, _)]) [0, 1, 2, 3] rfl ?_
      have h99 := ihx hxn
      first | (rw [chV, if_pos gr] at h99; exact h99) | (rw [chV, if_neg gr] at h99; exact h99)
    · refine V_aload_n C d_pl_cheapest_46 2 rfl ?_
      refine V_iload_n C d_pl_cheapest_47 0 rfl ?_
      refine V_iload_n C d_pl_cheapest_48 1 rfl ?_
      refine V_callVv C 21 (by decide) rfl rfl (c_pl_addRounds l w _ x (2 ^ n - 1) (by omega) (by omega) (by intro i hi; rw [chV_ne (by decide)]; exact h22 i hi) (by intro i hi; have := b1 i hi; rw [chV, if_neg gr] at this; omega) (by intro i hi; have := b0 i hi; omega)) wd_359 wd_361 ws_6 wd_5 wd_362 o_pl_addRounds ⟨rfl, rfl, Nat.le_of_ble_eq_true rfl, Nat.le_of_ble_eq_true rfl⟩ rfl rfl (Nat.le_of_ble_eq_true rfl) d_pl_cheapest_49 ⟨Nat.zero_le _, Nat.zero_le _⟩ ?_
      refine V_iinc (lv' := [(3, _), (2, _), (0, _), (1, _)]) C d_pl_cheapest_52 0 rfl (by decide) rfl ?_
      refine V_goto C 30 d_pl_cheapest_55 (by decide) ?_
      refine V_sub (lv' := [(3, _), (2, _), (0, _), (1, _)]) [0, 1, 2, 3] rfl ?_
      have h99 := ihx hxn
      first | (rw [chV, if_pos gr] at h99; exact h99) | (rw [chV, if_neg gr] at h99; exact h99)
