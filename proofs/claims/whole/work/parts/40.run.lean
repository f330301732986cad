/-! run, and what it calls -/
set_option maxRecDepth 20000 in
set_option maxHeartbeats 4000000 in
theorem c_rp_costIn (l : Launch) (w : zW) (σ : Nat → Nat → Int) (p0 : Nat) (hp : p0 < 2 ^ 63) : zMl l w LL CC g_rp_costIn rm_rp_costIn [.long (zL ((p0 : Int)))] σ (((p0 / 2 ^ 14 : Nat) : Int)) (σ) := by
  refine zMl.of g_rp_costIn (by decide +kernel) (Nat.le_of_ble_eq_true rfl) rfl ?_
  intro p e u m args below meth c C hr
  have C : zC p u m args meth c prog_1_method_23_code 2 "RoundPlans" w LL CC := C
  have hr : meth.sig.returnType = (some .long) := hr
  show V p l e rm_rp_costIn u m args below meth c 2 w LL CC 0 0 (MQ below (zQl w LL CC (((p0 / 2 ^ 14 : Nat) : Int)) (σ) u.heap.size) args u 0 0 (zA w LL.1 u.heap.size)) 0 [(0, .long (zL ((p0 : Int))))] [] σ
  refine V_lload_n C d_rp_costIn_0 0 rfl ?_
  refine V_bipush C d_rp_costIn_1 (by decide) ?_
  refine V_lshr C (((p0 / 2 ^ 14 : Nat) : Int)) d_rp_costIn_3 (zL_shr hp (k := 14) (by decide)) ?_
  exact V_lret C hr d_rp_costIn_4 rfl rfl

set_option maxRecDepth 20000 in
set_option maxHeartbeats 4000000 in
theorem c_rp_vehicleIn (l : Launch) (w : zW) (σ : Nat → Nat → Int) (p0 s : Nat) (hp : p0 < 2 ^ 63) (hs : s < 7) : zMi l w LL CC g_rp_vehicleIn rm_rp_vehicleIn [.long (zL ((p0 : Int))), .int (zI ((s : Int)))] σ (((dg p0 s : Nat) : Int)) (σ) := by
  refine zMi.of g_rp_vehicleIn (by decide +kernel) (Nat.le_of_ble_eq_true rfl) rfl ?_
  intro p e u m args below meth c C hr
  have C : zC p u m args meth c prog_1_method_24_code 3 "RoundPlans" w LL CC := C
  have hr : meth.sig.returnType = (some .int) := hr
  show V p l e rm_rp_vehicleIn u m args below meth c 3 w LL CC 0 0 (MQ below (zQi w LL CC (((dg p0 s : Nat) : Int)) (σ) u.heap.size) args u 0 0 (zA w LL.1 u.heap.size)) 0 [(0, .long (zL ((p0 : Int)))), (2, .int (zI ((s : Int))))] [] σ
  refine V_lload_n C d_rp_vehicleIn_0 0 rfl ?_
  refine V_iload_n C d_rp_vehicleIn_1 1 rfl ?_
  refine V_callSi C (c_rp_codeShift l w σ s hs) wd_380 wd_335 wd_1 wd_336 o_rp_codeShift ⟨rfl, rfl, Nat.le_of_ble_eq_true rfl, Nat.le_of_ble_eq_true rfl⟩ rfl rfl (Nat.le_of_ble_eq_true rfl) d_rp_vehicleIn_2 ⟨Nat.zero_le _, Nat.zero_le _⟩ ?_
  refine V_lshr C (((p0 / 2 ^ (2 * (6 - s)) : Nat) : Int)) d_rp_vehicleIn_5 (zL_shr hp (by omega)) ?_
  have hle : p0 / 2 ^ (2 * (6 - s)) ≤ p0 := Nat.div_le_self _ _
  generalize hq : p0 / 2 ^ (2 * (6 - s)) = q at hle ⊢
  refine V_l2i C d_rp_vehicleIn_6 ⟨by omega, by omega⟩ ?_
  refine V_iconst C d_rp_vehicleIn_7 ?_
  refine V_iand C (((q &&& 3 : Nat) : Int)) d_rp_vehicleIn_8 (zI_and _ _) ?_
  exact V_iret C hr d_rp_vehicleIn_9 (by unfold dg; rw [hq, and_3]) rfl

set_option maxRecDepth 20000 in
set_option maxHeartbeats 4000000 in
theorem c_rp_setIn (l : Launch) (w : zW) (σ : Nat → Nat → Int) (p0 v n : Nat) (hp : p0 < 2 ^ 63) (hv : v < 4) (hn7 : n ≤ 7) : zMi l w LL CC g_rp_setIn rm_rp_setIn [.long (zL ((p0 : Int))), .int (zI ((v : Int))), .int (zI ((n : Int)))] σ (((siF p0 v n : Nat) : Int)) (σ) := by
  refine zMi.of g_rp_setIn (by decide +kernel) (Nat.le_of_ble_eq_true rfl) rfl ?_
  intro p e u m args below meth c C hr
  have C : zC p u m args meth c prog_1_method_25_code 6 "RoundPlans" w LL CC := C
  have hr : meth.sig.returnType = (some .int) := hr
  show V p l e rm_rp_setIn u m args below meth c 6 w LL CC 0 0 (MQ below (zQi w LL CC (((siF p0 v n : Nat) : Int)) (σ) u.heap.size) args u 0 0 (zA w LL.1 u.heap.size)) 0 [(0, .long (zL ((p0 : Int)))), (2, .int (zI ((v : Int)))), (3, .int (zI ((n : Int))))] [] σ
  refine V_iconst C d_rp_setIn_0 ?_
  refine V_istore (lv' := [(4, _), (0, _), (2, _), (3, _)]) C d_rp_setIn_1 (by decide) rfl ?_
  refine V_iconst C d_rp_setIn_3 ?_
  refine V_istore (lv' := [(5, _), (4, _), (0, _), (2, _), (3, _)]) C d_rp_setIn_4 (by decide) rfl ?_
  refine V_sub (lv' := [(5, _), (4, _), (0, _), (2, _), (3, _)]) [0, 1, 2, 3, 4] rfl ?_
  refine loopUp (n := n) (P := fun i => V p l e rm_rp_setIn u m args below meth c 6 w LL CC 0 0 (MQ below (zQi w LL CC (((siF p0 v n : Nat) : Int)) (σ) u.heap.size) args u 0 0 (zA w LL.1 u.heap.size)) 6 [(5, .int (zI ((i : Int)))), (4, .int (zI (((siF p0 v i : Nat) : Int)))), (0, .long (zL ((p0 : Int)))), (2, .int (zI ((v : Int)))), (3, .int (zI ((n : Int))))] [] (σ)) (fun i hii ihi => ?_) 0 (Nat.zero_le _)
  show V p l e rm_rp_setIn u m args below meth c 6 w LL CC 0 0 (MQ below (zQi w LL CC (((siF p0 v n : Nat) : Int)) (σ) u.heap.size) args u 0 0 (zA w LL.1 u.heap.size)) 6 [(5, .int (zI ((i : Int)))), (4, .int (zI (((siF p0 v i : Nat) : Int)))), (0, .long (zL ((p0 : Int)))), (2, .int (zI ((v : Int)))), (3, .int (zI ((n : Int))))] [] (σ)
  refine V_iload C d_rp_setIn_6 0 rfl ?_
  refine V_iload_n C d_rp_setIn_8 4 rfl ?_
  refine V_cmpge C 37 d_rp_setIn_9 (by decide) ⟨by omega, by omega⟩ ⟨by omega, by omega⟩ (fun he => ?_) (fun he => ?_)
  · have hin : i = n := by omega
    subst hin
    refine V_iload C d_rp_setIn_37 1 rfl ?_
    exact V_iret C hr d_rp_setIn_39 rfl rfl
  · have hin : i < n := by omega
    have hd4 : dg p0 i < 4 := Nat.mod_lt _ (by decide)
    refine V_lload_n C d_rp_setIn_12 2 rfl ?_
    refine V_iload C d_rp_setIn_13 0 rfl ?_
    refine V_callSi C (c_rp_vehicleIn l w σ p0 i hp (by omega)) wd_386 wd_378 wd_1 wd_379 o_rp_vehicleIn ⟨rfl, rfl, Nat.le_of_ble_eq_true rfl, Nat.le_of_ble_eq_true rfl⟩ rfl rfl (Nat.le_of_ble_eq_true rfl) d_rp_setIn_15 ⟨Nat.zero_le _, Nat.zero_le _⟩ ?_
    refine V_iload_n C d_rp_setIn_18 3 rfl ?_
    refine V_cmpne C 31 d_rp_setIn_19 (by decide) ⟨by omega, by omega⟩ ⟨by omega, by omega⟩ (fun g1 => ?_) (fun g1 => ?_)
    · refine V_iinc (lv' := [(5, _), (4, _), (0, _), (2, _), (3, _)]) C d_rp_setIn_31 0 rfl (by decide) rfl ?_
      refine V_goto C 6 d_rp_setIn_34 (by decide) ?_
      refine V_sub (lv' := [(5, _), (4, _), (0, _), (2, _), (3, _)]) [0, 1, 2, 3, 4] rfl ?_
      have h99 := ihi hin
      first | (rw [siF_f (by omega)] at h99; exact h99) | (rw [siF_t (by omega)] at h99; exact h99)
    · refine V_iload C d_rp_setIn_22 1 rfl ?_
      refine V_iload C d_rp_setIn_24 0 rfl ?_
      refine V_callSi C (c_rp_with l w σ (siF p0 v i) i (by omega)) wd_387 wd_275 wd_1 wd_276 o_rp_with ⟨rfl, rfl, Nat.le_of_ble_eq_true rfl, Nat.le_of_ble_eq_true rfl⟩ rfl rfl (Nat.le_of_ble_eq_true rfl) d_rp_setIn_26 ⟨Nat.zero_le _, Nat.zero_le _⟩ ?_
      refine V_istore (lv' := [(4, _), (5, _), (0, _), (2, _), (3, _)]) C d_rp_setIn_29 (by decide) rfl ?_
      refine V_iinc (lv' := [(5, _), (4, _), (0, _), (2, _), (3, _)]) C d_rp_setIn_31 1 rfl (by decide) rfl ?_
      refine V_goto C 6 d_rp_setIn_34 (by decide) ?_
      refine V_sub (lv' := [(5, _), (4, _), (0, _), (2, _), (3, _)]) [0, 1, 2, 3, 4] rfl ?_
      have h99 := ihi hin
      first | (rw [siF_f (by omega)] at h99; exact h99) | (rw [siF_t (by omega)] at h99; exact h99)

set_option maxRecDepth 20000 in
set_option maxHeartbeats 4000000 in
theorem c_ar_fill (l : Launch) (w : zW) (σ : Nat → Nat → Int) (h n0 : Nat) (hh : h < LL.1) (hd0 : LL.2.1 h = (0, n0, [])) (hn0 : n0 < 2 ^ 31) (v : Int) : zMv l w LL CC g_ar_fill rm_ar_fill [.ref (w.1 h), .int (zI (v))] σ (flS σ h n0 v) := by
  refine zMv.of g_ar_fill (by decide +kernel) (Nat.le_of_ble_eq_true rfl) rfl ?_
  intro p e u m args below meth c C hr
  have C : zC p u m args meth c prog_11_method_103_code 4 "java/util/Arrays" w LL CC := C
  have hr : meth.sig.returnType = none := hr
  show V p l e rm_ar_fill u m args below meth c 4 w LL CC 0 0 (MQ below (zQv w LL CC (flS σ h n0 v) u.heap.size) args u 0 0 (zA w LL.1 u.heap.size)) 0 [(0, .ref (w.1 h)), (1, .int (zI (v)))] [] σ
  refine V_iconst C d_ar_fill_0 ?_
  refine V_istore_n (lv' := [(2, _), (0, _), (1, _)]) C d_ar_fill_1 (by decide) rfl ?_
  refine V_aload_n C d_ar_fill_2 1 rfl ?_
  refine V_alen C h hh hd0 d_ar_fill_3 ?_
  refine V_istore_n (lv' := [(3, _), (2, _), (0, _), (1, _)]) C d_ar_fill_4 (by decide) rfl ?_
  refine V_sub (lv' := [(2, _), (3, _), (0, _), (1, _)]) [1, 0, 2, 3] rfl ?_
  refine V_ss (flS_0 (h := h) (v := v)).symm ?_
  refine loopUp (n := n0) (P := fun i => V p l e rm_ar_fill u m args below meth c 4 w LL CC 0 0 (MQ below (zQv w LL CC (flS σ h n0 v) u.heap.size) args u 0 0 (zA w LL.1 u.heap.size)) 5 [(2, .int (zI ((i : Int)))), (3, .int (zI ((n0 : Int)))), (0, .ref (w.1 h)), (1, .int (zI (v)))] [] (flS σ h i v)) (fun i hii ihi => ?_) 0 (Nat.zero_le _)
  show V p l e rm_ar_fill u m args below meth c 4 w LL CC 0 0 (MQ below (zQv w LL CC (flS σ h n0 v) u.heap.size) args u 0 0 (zA w LL.1 u.heap.size)) 5 [(2, .int (zI ((i : Int)))), (3, .int (zI ((n0 : Int)))), (0, .ref (w.1 h)), (1, .int (zI (v)))] [] (flS σ h i v)
  refine V_iload_n C d_ar_fill_5 0 rfl ?_
  refine V_iload_n C d_ar_fill_6 1 rfl ?_
  refine V_cmpge C 20 d_ar_fill_7 (by decide) ⟨by omega, by omega⟩ ⟨by omega, by omega⟩ (fun he => ?_) (fun he => ?_)
  · have hin : i = n0 := by omega
    subst hin
    exact V_vret C hr d_ar_fill_20 rfl
  · have hin : i < n0 := by omega
    refine V_aload_n C d_ar_fill_10 2 rfl ?_
    refine V_iload_n C d_ar_fill_11 0 rfl ?_
    refine V_iload_n C d_ar_fill_12 3 rfl ?_
    refine V_iast C h _ hh hd0 rfl (by omega) hn0 d_ar_fill_13 ?_
    rw [flS_step]
    refine V_iinc (lv' := [(2, _), (3, _), (0, _), (1, _)]) C d_ar_fill_14 0 rfl (by decide) rfl ?_
    refine V_goto C 5 d_ar_fill_17 (by decide) ?_
    refine V_sub (lv' := [(2, _), (3, _), (0, _), (1, _)]) [0, 1, 2, 3] rfl ?_
    exact ihi hin

set_option maxRecDepth 20000 in
set_option maxHeartbeats 4000000 in
theorem c_fd_take (l : Launch) (w : zW) (σ : Nat → Nat → Int) (n nv : Nat) (hT : tI σ n nv) (b : Nat) (hb : b < 2 ^ 63) : zMv l w LL CC g_fd_take rm_fd_take [.ref (w.1 25), .ref (w.1 1), .long (zL ((b : Int)))] σ (tkS σ n nv b) := by
  refine zMv.of g_fd_take (by decide +kernel) (Nat.le_of_ble_eq_true rfl) rfl ?_
  intro p e u m args below meth c C hr
  have C : zC p u m args meth c prog_2_method_4_code 5 "RoundPlans$Found" w LL CC := C
  have hr : meth.sig.returnType = none := hr
  obtain ⟨hn, hn7, hv, hv3, h2, h3, h4, h5, h6, h7, h8, h9, h10, h11, h12, h13, h14, h15, h16⟩ := id hT
  show V p l e rm_fd_take u m args below meth c 5 w LL CC 0 0 (MQ below (zQv w LL CC (tkS σ n nv b) u.heap.size) args u 0 0 (zA w LL.1 u.heap.size)) 0 [(0, .ref (w.1 25)), (1, .ref (w.1 1)), (2, .long (zL ((b : Int))))] [] σ
  refine V_aload_n C d_fd_take_0 0 rfl ?_
  refine V_aload_n C d_fd_take_1 1 rfl ?_
  refine V_geti C 1 0 (by decide) rfl rfl in_td (by decide) rfl wd_33 d_fd_take_2 ?_
  refine V_ti hn ?_
  refine V_put C 25 0 (by decide) rfl rfl in_fd ty_fd tk_fd nm_fd (by decide) rfl wd_161 rfl rfl rfl rfl d_fd_take_5 ?_
  refine V_aload_n C d_fd_take_8 0 rfl ?_
  refine V_aload_n C d_fd_take_9 1 rfl ?_
  refine V_geti C 1 1 (by decide) rfl rfl in_td (by decide) rfl wd_37 d_fd_take_10 ?_
  refine V_ti hv ?_
  refine V_put C 25 1 (by decide) rfl rfl in_fd ty_fd tk_fd nm_fd (by decide) rfl wd_162 rfl rfl rfl rfl d_fd_take_13 ?_
  refine V_aload_n C d_fd_take_16 0 rfl ?_
  refine V_lload_n C d_fd_take_17 2 rfl ?_
  refine V_callNl C (c_rp_costIn l w _ b hb) ns_0 wd_375 wd_1 wd_376 o_rp_costIn ⟨rfl, rfl, Nat.le_of_ble_eq_true rfl, Nat.le_of_ble_eq_true rfl⟩ rfl rfl (Nat.le_of_ble_eq_true rfl) d_fd_take_18 ⟨Nat.zero_le _, Nat.zero_le _⟩ ?_
  refine V_put C 25 2 (by decide) rfl rfl in_fd ty_fd tk_fd nm_fd (by decide) rfl wd_163 rfl rfl rfl rfl d_fd_take_21 ?_
  refine V_iconst C d_fd_take_24 ?_
  refine V_istore (lv' := [(4, _), (0, _), (1, _), (2, _)]) C d_fd_take_25 (by decide) rfl ?_
  refine V_sub (lv' := [(4, _), (0, _), (1, _), (2, _)]) [0, 1, 2, 3] rfl ?_
  refine loopUp (n := n) (P := fun i => V p l e rm_fd_take u m args below meth c 5 w LL CC 0 0 (MQ below (zQv w LL CC (tkS σ n nv b) u.heap.size) args u 0 0 (zA w LL.1 u.heap.size)) 27 [(4, .int (zI ((i : Int)))), (0, .ref (w.1 25)), (1, .ref (w.1 1)), (2, .long (zL ((b : Int))))] [] (tkL σ n nv b i)) (fun i hii ihi => ?_) 0 (Nat.zero_le _)
  show V p l e rm_fd_take u m args below meth c 5 w LL CC 0 0 (MQ below (zQv w LL CC (tkS σ n nv b) u.heap.size) args u 0 0 (zA w LL.1 u.heap.size)) 27 [(4, .int (zI ((i : Int)))), (0, .ref (w.1 25)), (1, .ref (w.1 1)), (2, .long (zL ((b : Int))))] [] (tkL σ n nv b i)
  refine V_iload C d_fd_take_27 0 rfl ?_
  refine V_aload_n C d_fd_take_29 1 rfl ?_
  refine V_geti C 25 0 (by decide) rfl rfl in_fd (by decide) rfl wd_161 d_fd_take_30 ?_
  refine V_ti (b := (n : Int)) (by rw [tkL_25]; rfl) ?_
  refine V_cmpge C 55 d_fd_take_33 (by decide) ⟨by omega, by omega⟩ ⟨by omega, by omega⟩ (fun he => ?_) (fun he => ?_)
  · have hin : i = n := by omega
    subst hin
    refine V_aload_n C d_fd_take_55 1 rfl ?_
    refine V_getr C 25 4 27 (by decide) rfl rfl in_fd (by decide) rfl wd_167 d_fd_take_56 ?_
    refine V_iconst C d_fd_take_59 ?_
    refine V_callSv C (c_ar_fill l w _ 27 7 (by decide) rfl (by decide) (-1)) wd_381 wd_27 wd_3 wd_28 o_ar_fill ⟨rfl, rfl, Nat.le_of_ble_eq_true rfl, Nat.le_of_ble_eq_true rfl⟩ rfl rfl (Nat.le_of_ble_eq_true rfl) d_fd_take_60 ⟨Nat.zero_le _, Nat.zero_le _⟩ ?_
    refine V_aload_n C d_fd_take_63 1 rfl ?_
    refine V_getr C 25 6 29 (by decide) rfl rfl in_fd (by decide) rfl wd_171 d_fd_take_64 ?_
    refine V_iconst C d_fd_take_67 ?_
    refine V_callSv C (c_ar_fill l w _ 29 3 (by decide) rfl (by decide) 0) wd_381 wd_27 wd_3 wd_28 o_ar_fill ⟨rfl, rfl, Nat.le_of_ble_eq_true rfl, Nat.le_of_ble_eq_true rfl⟩ rfl rfl (Nat.le_of_ble_eq_true rfl) d_fd_take_68 ⟨Nat.zero_le _, Nat.zero_le _⟩ ?_
    refine V_aload_n C d_fd_take_71 1 rfl ?_
    refine V_getr C 25 7 30 (by decide) rfl rfl in_fd (by decide) rfl wd_173 d_fd_take_72 ?_
    refine V_iconst C d_fd_take_75 ?_
    refine V_callSv C (c_ar_fill l w _ 30 3 (by decide) rfl (by decide) (-1)) wd_381 wd_27 wd_3 wd_28 o_ar_fill ⟨rfl, rfl, Nat.le_of_ble_eq_true rfl, Nat.le_of_ble_eq_true rfl⟩ rfl rfl (Nat.le_of_ble_eq_true rfl) d_fd_take_76 ⟨Nat.zero_le _, Nat.zero_le _⟩ ?_
    exact V_vret C hr d_fd_take_79 rfl
  · have hin : i < n := by omega
    refine V_aload_n C d_fd_take_36 1 rfl ?_
    refine V_getr C 25 3 26 (by decide) rfl rfl in_fd (by decide) rfl wd_165 d_fd_take_37 ?_
    refine V_iload C d_fd_take_40 0 rfl ?_
    refine V_lload_n C d_fd_take_42 3 rfl ?_
    refine V_iload C d_fd_take_43 0 rfl ?_
    refine V_callNi C (c_rp_vehicleIn l w _ b i hb (by omega)) ns_1 wd_378 wd_1 wd_379 o_rp_vehicleIn ⟨rfl, rfl, Nat.le_of_ble_eq_true rfl, Nat.le_of_ble_eq_true rfl⟩ rfl rfl (Nat.le_of_ble_eq_true rfl) d_fd_take_45 ⟨Nat.zero_le _, Nat.zero_le _⟩ ?_
    refine V_iast C 26 _ (by decide) rfl rfl (by omega) (by decide) d_fd_take_48 ?_
    refine V_iinc (lv' := [(4, _), (0, _), (1, _), (2, _)]) C d_fd_take_49 0 rfl (by decide) rfl ?_
    refine V_goto C 27 d_fd_take_52 (by decide) ?_
    refine V_sub (lv' := [(4, _), (0, _), (1, _), (2, _)]) [0, 1, 2, 3] rfl ?_
    exact ihi hin

set_option maxRecDepth 20000 in
set_option maxHeartbeats 4000000 in
theorem c_ig_bitCount (l : Launch) (w : zW) (σ : Nat → Nat → Int) (S : Nat) (hS : S < 128) : zMi l w LL CC g_ig_bitCount rm_ig_bitCount [.int (zI ((S : Int)))] σ (((cnt (fun i => S.testBit i) 7 : Nat) : Int)) (σ) := by
  refine zMi.of g_ig_bitCount (by decide +kernel) (Nat.le_of_ble_eq_true rfl) rfl ?_
  intro p e u m args below meth c C hr
  have C : zC p u m args meth c prog_8_method_49_code 1 "java/lang/Integer" w LL CC := C
  have hr : meth.sig.returnType = (some .int) := hr
  obtain ⟨e1, e2, e3, e4, e5, e6⟩ := bc_ok S hS
  show V p l e rm_ig_bitCount u m args below meth c 1 w LL CC 0 0 (MQ below (zQi w LL CC (((cnt (fun i => S.testBit i) 7 : Nat) : Int)) (σ) u.heap.size) args u 0 0 (zA w LL.1 u.heap.size)) 0 [(0, .int (zI ((S : Int))))] [] σ
  refine V_iload_n C d_ig_bitCount_0 0 rfl ?_
  refine V_iload_n C d_ig_bitCount_1 0 rfl ?_
  refine V_iconst C d_ig_bitCount_2 ?_
  refine V_iushr C (((S / 2 ^ 1 : Nat) : Int)) d_ig_bitCount_3 (zI_ushr (k := 1) (by omega) (by decide)) ?_
  refine V_ldcw C (1431655765) d_ig_bitCount_4 wd_412 ?_
  refine V_iand C (((S / 2 ^ 1 &&& 1431655765 : Nat) : Int)) d_ig_bitCount_7 (zI_and _ 1431655765) ?_
  refine V_isub C d_ig_bitCount_8 ?_
  refine V_ti (b := ((bc1 S : Nat) : Int)) (by unfold bc1; omega) ?_
  refine V_istore_n (lv' := [(0, _)]) C d_ig_bitCount_9 (by decide) rfl ?_
  refine V_iload_n C d_ig_bitCount_10 0 rfl ?_
  refine V_ldcw C (858993459) d_ig_bitCount_11 wd_413 ?_
  refine V_iand C (((bc1 S &&& 858993459 : Nat) : Int)) d_ig_bitCount_14 (zI_and _ 858993459) ?_
  refine V_iload_n C d_ig_bitCount_15 0 rfl ?_
  refine V_iconst C d_ig_bitCount_16 ?_
  refine V_iushr C (((bc1 S / 2 ^ 2 : Nat) : Int)) d_ig_bitCount_17 (zI_ushr (k := 2) (by omega) (by decide)) ?_
  refine V_ldcw C (858993459) d_ig_bitCount_18 wd_413 ?_
  refine V_iand C (((bc1 S / 2 ^ 2 &&& 858993459 : Nat) : Int)) d_ig_bitCount_21 (zI_and _ 858993459) ?_
  refine V_iadd C d_ig_bitCount_22 ?_
  refine V_ti (b := ((bc2 S : Nat) : Int)) (by unfold bc2; omega) ?_
  refine V_istore_n (lv' := [(0, _)]) C d_ig_bitCount_23 (by decide) rfl ?_
  refine V_iload_n C d_ig_bitCount_24 0 rfl ?_
  refine V_iload_n C d_ig_bitCount_25 0 rfl ?_
  refine V_iconst C d_ig_bitCount_26 ?_
  refine V_iushr C (((bc2 S / 2 ^ 4 : Nat) : Int)) d_ig_bitCount_27 (zI_ushr (k := 4) (by omega) (by decide)) ?_
  refine V_iadd C d_ig_bitCount_28 ?_
  refine V_ti (b := ((bc2 S + bc2 S / 2 ^ 4 : Nat) : Int)) (by omega) ?_
  refine V_ldcw C (252645135) d_ig_bitCount_29 wd_414 ?_
  refine V_iand C (((bc3 S : Nat) : Int)) d_ig_bitCount_32 (zI_and _ 252645135) ?_
  refine V_istore_n (lv' := [(0, _)]) C d_ig_bitCount_33 (by decide) rfl ?_
  refine V_iload_n C d_ig_bitCount_34 0 rfl ?_
  refine V_iload_n C d_ig_bitCount_35 0 rfl ?_
  refine V_bipush C d_ig_bitCount_36 (by decide) ?_
  refine V_iushr C (((bc3 S / 2 ^ 8 : Nat) : Int)) d_ig_bitCount_38 (zI_ushr (k := 8) (by omega) (by decide)) ?_
  refine V_iadd C d_ig_bitCount_39 ?_
  refine V_ti (b := ((bc4 S : Nat) : Int)) (by unfold bc4; omega) ?_
  refine V_istore_n (lv' := [(0, _)]) C d_ig_bitCount_40 (by decide) rfl ?_
  refine V_iload_n C d_ig_bitCount_41 0 rfl ?_
  refine V_iload_n C d_ig_bitCount_42 0 rfl ?_
  refine V_bipush C d_ig_bitCount_43 (by decide) ?_
  refine V_iushr C (((bc4 S / 2 ^ 16 : Nat) : Int)) d_ig_bitCount_45 (zI_ushr (k := 16) (by omega) (by decide)) ?_
  refine V_iadd C d_ig_bitCount_46 ?_
  refine V_ti (b := ((bc5 S : Nat) : Int)) (by unfold bc5; omega) ?_
  refine V_istore_n (lv' := [(0, _)]) C d_ig_bitCount_47 (by decide) rfl ?_
  refine V_iload_n C d_ig_bitCount_48 0 rfl ?_
  refine V_bipush C d_ig_bitCount_49 (by decide) ?_
  refine V_iand C (((bc5 S &&& 63 : Nat) : Int)) d_ig_bitCount_51 (zI_and _ 63) ?_
  exact V_iret C hr d_ig_bitCount_52 (by rw [e6]) rfl

set_option maxRecDepth 20000 in
set_option maxHeartbeats 4000000 in
theorem c_rp_run (l : Launch) (w : zW) (σ : Nat → Nat → Int) (n nv : Nat) (hT : tI σ n nv) (hR : bd σ 19 896 0 1073741824) (h18 : bd σ 18 384 0 1073741824) (hL : bd σ 20 896 (-1) 86399) (h22 : bd σ 22 384 (-1125899906842624) 1152921504606846976) (h23 : bd σ 23 128 0 1125899906842624) (b : Nat) (hb : b < 2 ^ 63) (hB : runB σ n nv (-1) = (b : Int)) (c0 : Nat → Nat) (hc : ∀ v, v < nv → c0 v < 2 ^ 63 ∧ runB σ n nv (v : Int) = (c0 v : Int)) : zMi l w LL CC g_rp_run rm_rp_run [.ref (w.1 0)] σ (((cnt (fun i => (siF b 3 n).testBit i) 7 : Nat) : Int)) (runF σ n nv b c0) := by
  refine zMi.of g_rp_run (by decide +kernel) (Nat.le_of_ble_eq_true rfl) rfl ?_
  intro p e u m args below meth c C hr
  have C : zC p u m args meth c prog_1_method_10_code 5 "RoundPlans" w LL CC := C
  have hr : meth.sig.returnType = (some .int) := hr
  obtain ⟨hn, hn7, hv, hv3, h2, h3, h4, h5, h6, h7, h8, h9, h10, h11, h12, h13, h14, h15, h16⟩ := id hT
  have hp := pow_n hn7
  have hT1 : tI (bkO σ n nv) n nv := hT.congr (fun k hk => bkO_ne (by omega) (by omega) nv)
  have k18 := bkO_18 hT hR h18 nv hv3
  have hT2 : tI (runS1 σ n nv) n nv := hT1.congr (fun k hk => fpO_ne (by omega) (by omega) _)
  have k22 : bd (runS1 σ n nv) 22 384 (-1125899906842624) 1152921504606846976 := fpO_22 hT1 k18 (by intro i hi; rw [bkO_ne (by decide) (by decide)]; exact h22 i hi) _ (by omega)
  have k23 : bd (runS1 σ n nv) 23 128 0 1125899906842624 := fpO_23 hT1 (by intro i hi; rw [bkO_ne (by decide) (by decide)]; exact h23 i hi) _
  have hT3 : tI (chV (runS1 σ n nv) (2 ^ n - 1) (-1) nv) n nv := hT2.congr (fun k hk => chV_ne (by omega) _)
  have hT4 : tI (tkS (chV (runS1 σ n nv) (2 ^ n - 1) (-1) nv) n nv b) n nv := hT3.congr (fun k hk => tkS_ne (by omega))
  have hTx : ∀ x, tI (rnL n nv b c0 (tkS (chV (runS1 σ n nv) (2 ^ n - 1) (-1) nv) n nv b) x) n nv := fun x => hT4.congr (fun k hk => rnL_ne (by omega) x)
  have e22 : ∀ x, rnL n nv b c0 (tkS (chV (runS1 σ n nv) (2 ^ n - 1) (-1) nv) n nv b) x 22 = runS1 σ n nv 22 := fun x => by rw [rnL_ne (by omega), tkS_ne (by omega), chV_ne (by decide)]
  have e23 : ∀ x, rnL n nv b c0 (tkS (chV (runS1 σ n nv) (2 ^ n - 1) (-1) nv) n nv b) x 23 = runS1 σ n nv 23 := fun x => by rw [rnL_ne (by omega), tkS_ne (by omega), chV_ne (by decide)]
  have m22 : ∀ x, bd (rnL n nv b c0 (tkS (chV (runS1 σ n nv) (2 ^ n - 1) (-1) nv) n nv b) x) 22 384 (-1125899906842624) 1152921504606846976 := fun x i hi => by rw [e22]; exact k22 i hi
  have m23 : ∀ x, bd (rnL n nv b c0 (tkS (chV (runS1 σ n nv) (2 ^ n - 1) (-1) nv) n nv b) x) 23 128 0 1125899906842624 := fun x i hi => by rw [e23]; exact k23 i hi
  have m20 : ∀ x, bd (rnL n nv b c0 (tkS (chV (runS1 σ n nv) (2 ^ n - 1) (-1) nv) n nv b) x) 20 896 (-1) 86399 := rnL_20 hT4 (by intro i hi; rw [tkS_ne (by omega), chV_ne (by decide)]; unfold runS1; rw [fpO_ne (by decide) (by decide), bkO_ne (by decide) (by decide)]; exact hL i hi)
  have m18 : ∀ x, bd (rnL n nv b c0 (tkS (chV (runS1 σ n nv) (2 ^ n - 1) (-1) nv) n nv b) x) 18 384 0 1073741824 := fun x i hi => by rw [rnL_ne (by omega), tkS_ne (by omega), chV_ne (by decide)]; unfold runS1; rw [fpO_ne (by decide) (by decide)]; exact k18 i hi
  have m29 : ∀ x, bd (rnL n nv b c0 (tkS (chV (runS1 σ n nv) (2 ^ n - 1) (-1) nv) n nv b) x) 29 3 0 7 := rnL_29 (by intro i hi; unfold tkS; rw [flS_ne (by decide)]; unfold flS; rw [zUA_self, if_pos hi]; decide)
  show V p l e rm_rp_run u m args below meth c 5 w LL CC 0 0 (MQ below (zQi w LL CC (((cnt (fun i => (siF b 3 n).testBit i) 7 : Nat) : Int)) (runF σ n nv b c0) u.heap.size) args u 0 0 (zA w LL.1 u.heap.size)) 0 [(0, .ref (w.1 0))] [] σ
  refine V_aload_n C d_rp_run_0 0 rfl ?_
  refine V_getr C 0 1 17 (by decide) rfl rfl in_rp (by decide) rfl wd_198 d_rp_run_1 ?_
  refine V_callVv C 17 (by decide) rfl rfl (c_rd_findBacks l w σ n nv hT hR) wd_296 wd_297 wd_298 wd_4 wd_299 o_rd_findBacks ⟨rfl, rfl, Nat.le_of_ble_eq_true rfl, Nat.le_of_ble_eq_true rfl⟩ rfl rfl (Nat.le_of_ble_eq_true rfl) d_rp_run_4 ⟨Nat.zero_le _, Nat.zero_le _⟩ ?_
  refine V_aload_n C d_rp_run_7 0 rfl ?_
  refine V_getr C 0 2 21 (by decide) rfl rfl in_rp (by decide) rfl wd_199 d_rp_run_8 ?_
  refine V_callVv C 21 (by decide) rfl rfl (c_pl_findPrices l w _ n nv hT1 k18) wd_325 wd_326 wd_327 wd_5 wd_328 o_pl_findPrices ⟨rfl, rfl, Nat.le_of_ble_eq_true rfl, Nat.le_of_ble_eq_true rfl⟩ rfl rfl (Nat.le_of_ble_eq_true rfl) d_rp_run_11 ⟨Nat.zero_le _, Nat.zero_le _⟩ ?_
  refine V_aload_n C d_rp_run_14 0 rfl ?_
  refine V_getr C 0 2 21 (by decide) rfl rfl in_rp (by decide) rfl wd_199 d_rp_run_15 ?_
  refine V_iconst C d_rp_run_18 ?_
  refine V_callVl C 21 (by decide) rfl rfl (c_pl_cheapest l w (runS1 σ n nv) n nv hT2 (-1) ⟨by decide, by decide⟩ k22 k23) wd_352 wd_353 wd_354 wd_5 wd_355 o_pl_cheapest ⟨rfl, rfl, Nat.le_of_ble_eq_true rfl, Nat.le_of_ble_eq_true rfl⟩ rfl rfl (Nat.le_of_ble_eq_true rfl) d_rp_run_19 ⟨Nat.zero_le _, Nat.zero_le _⟩ ?_
  refine V_tl hB ?_
  refine V_lstore_n (lv' := [(1, _), (0, _)]) C d_rp_run_22 (by decide) rfl ?_
  refine V_aload_n C d_rp_run_23 1 rfl ?_
  refine V_getr C 0 3 25 (by decide) rfl rfl in_rp (by decide) rfl wd_200 d_rp_run_24 ?_
  refine V_aload_n C d_rp_run_27 1 rfl ?_
  refine V_getr C 0 0 1 (by decide) rfl rfl in_rp (by decide) rfl wd_197 d_rp_run_28 ?_
  refine V_lload_n C d_rp_run_31 0 rfl ?_
  refine V_callVv C 25 (by decide) rfl rfl (c_fd_take l w _ n nv hT3 b hb) wd_370 wd_371 wd_372 wd_6 wd_373 o_fd_take ⟨rfl, rfl, Nat.le_of_ble_eq_true rfl, Nat.le_of_ble_eq_true rfl⟩ rfl rfl (Nat.le_of_ble_eq_true rfl) d_rp_run_32 ⟨Nat.zero_le _, Nat.zero_le _⟩ ?_
  refine V_iconst C d_rp_run_35 ?_
  refine V_istore_n (lv' := [(3, _), (1, _), (0, _)]) C d_rp_run_36 (by decide) rfl ?_
  refine V_sub (lv' := [(3, _), (1, _), (0, _)]) [0, 1, 2] rfl ?_
  refine loopUp (n := nv) (P := fun x => V p l e rm_rp_run u m args below meth c 5 w LL CC 0 0 (MQ below (zQi w LL CC (((cnt (fun i => (siF b 3 n).testBit i) 7 : Nat) : Int)) (runF σ n nv b c0) u.heap.size) args u 0 0 (zA w LL.1 u.heap.size)) 37 [(3, .int (zI ((x : Int)))), (1, .long (zL ((b : Int)))), (0, .ref (w.1 0))] [] (rnL n nv b c0 (tkS (chV (runS1 σ n nv) (2 ^ n - 1) (-1) nv) n nv b) x)) (fun x hix ihx => ?_) 0 (Nat.zero_le _)
  show V p l e rm_rp_run u m args below meth c 5 w LL CC 0 0 (MQ below (zQi w LL CC (((cnt (fun i => (siF b 3 n).testBit i) 7 : Nat) : Int)) (runF σ n nv b c0) u.heap.size) args u 0 0 (zA w LL.1 u.heap.size)) 37 [(3, .int (zI ((x : Int)))), (1, .long (zL ((b : Int)))), (0, .ref (w.1 0))] [] (rnL n nv b c0 (tkS (chV (runS1 σ n nv) (2 ^ n - 1) (-1) nv) n nv b) x)
  refine V_iload_n C d_rp_run_37 0 rfl ?_
  refine V_aload_n C d_rp_run_38 2 rfl ?_
  refine V_getr C 0 0 1 (by decide) rfl rfl in_rp (by decide) rfl wd_197 d_rp_run_39 ?_
  refine V_geti C 1 1 (by decide) rfl rfl in_td (by decide) rfl wd_38 d_rp_run_42 ?_
  refine V_ti (b := (nv : Int)) (hTx x).2.2.1 ?_
  refine V_cmpge C 115 d_rp_run_45 (by decide) ⟨by omega, by omega⟩ ⟨by omega, by omega⟩ (fun hx => ?_) (fun hx => ?_)
  · have hxx : x = nv := by omega
    refine V_lload_n C d_rp_run_115 1 rfl ?_
    refine V_iconst C d_rp_run_116 ?_
    refine V_aload_n C d_rp_run_117 2 rfl ?_
    refine V_getr C 0 0 1 (by decide) rfl rfl in_rp (by decide) rfl wd_197 d_rp_run_118 ?_
    refine V_geti C 1 0 (by decide) rfl rfl in_td (by decide) rfl wd_29 d_rp_run_121 ?_
    refine V_ti (b := (n : Int)) (hTx x).1 ?_
    refine V_callSi C (c_rp_setIn l w _ b 3 n hb (by decide) hn7) wd_383 wd_384 wd_1 wd_385 o_rp_setIn ⟨rfl, rfl, Nat.le_of_ble_eq_true rfl, Nat.le_of_ble_eq_true rfl⟩ rfl rfl (Nat.le_of_ble_eq_true rfl) d_rp_run_124 ⟨Nat.zero_le _, Nat.zero_le _⟩ ?_
    refine V_callSi C (c_ig_bitCount l w _ (siF b 3 n) (siF_lt hn7)) wd_409 wd_410 wd_10 wd_411 o_ig_bitCount ⟨rfl, rfl, Nat.le_of_ble_eq_true rfl, Nat.le_of_ble_eq_true rfl⟩ rfl rfl (Nat.le_of_ble_eq_true rfl) d_rp_run_127 ⟨Nat.zero_le _, Nat.zero_le _⟩ ?_
    exact V_iret C hr d_rp_run_130 rfl (by subst hxx; rfl)
  · have hxn : x < nv := by omega
    refine V_aload_n C d_rp_run_48 2 rfl ?_
    refine V_getr C 0 3 25 (by decide) rfl rfl in_rp (by decide) rfl wd_200 d_rp_run_49 ?_
    refine V_getr C 25 8 31 (by decide) rfl rfl in_fd (by decide) rfl wd_177 d_rp_run_52 ?_
    refine V_iload_n C d_rp_run_55 0 rfl ?_
    refine V_aload_n C d_rp_run_56 2 rfl ?_
    refine V_getr C 0 2 21 (by decide) rfl rfl in_rp (by decide) rfl wd_199 d_rp_run_57 ?_
    refine V_iload_n C d_rp_run_60 0 rfl ?_
    refine V_callVl C 21 (by decide) rfl rfl (c_pl_cheapest l w _ n nv (hTx x) (x : Int) ⟨by omega, by omega⟩ (m22 x) (m23 x)) wd_352 wd_353 wd_354 wd_5 wd_355 o_pl_cheapest ⟨rfl, rfl, Nat.le_of_ble_eq_true rfl, Nat.le_of_ble_eq_true rfl⟩ rfl rfl (Nat.le_of_ble_eq_true rfl) d_rp_run_61 ⟨Nat.zero_le _, Nat.zero_le _⟩ ?_
    refine V_tl (b := ((c0 x : Nat) : Int)) (by rw [chV_congr (σ := runS1 σ n nv) (by omega) (e22 x) (e23 x) nv _ (by omega)]; exact (hc x hxn).2) ?_
    refine V_callSl C (c_rp_costIn l w _ (c0 x) (hc x hxn).1) wd_382 wd_375 wd_1 wd_376 o_rp_costIn ⟨rfl, rfl, Nat.le_of_ble_eq_true rfl, Nat.le_of_ble_eq_true rfl⟩ rfl rfl (Nat.le_of_ble_eq_true rfl) d_rp_run_64 ⟨Nat.zero_le _, Nat.zero_le _⟩ ?_
    refine V_aload_n C d_rp_run_67 2 rfl ?_
    refine V_getr C 0 3 25 (by decide) rfl rfl in_rp (by decide) rfl wd_200 d_rp_run_68 ?_
    refine V_getl C 25 2 (by decide) rfl rfl in_fd (by decide) rfl wd_164 d_rp_run_71 ?_
    refine V_tl (b := ((b / 2 ^ 14 : Nat) : Int)) (by rw [chV_ne (by decide), rnL_ne (by omega), tkS_25]; rfl) ?_
    refine V_lsub C d_rp_run_74 ?_
    refine V_last C 31 _ (by decide) rfl rfl (by omega) (by decide) d_rp_run_75 ?_
    refine V_lload_n C d_rp_run_76 1 rfl ?_
    refine V_iload_n C d_rp_run_77 0 rfl ?_
    refine V_aload_n C d_rp_run_78 2 rfl ?_
    refine V_getr C 0 0 1 (by decide) rfl rfl in_rp (by decide) rfl wd_197 d_rp_run_79 ?_
    refine V_geti C 1 0 (by decide) rfl rfl in_td (by decide) rfl wd_29 d_rp_run_82 ?_
    refine V_ti (b := (n : Int)) (by rw [zU_ne (by decide), chV_ne (by decide)]; exact (hTx x).1) ?_
    refine V_callSi C (c_rp_setIn l w _ b x n hb (by omega) hn7) wd_383 wd_384 wd_1 wd_385 o_rp_setIn ⟨rfl, rfl, Nat.le_of_ble_eq_true rfl, Nat.le_of_ble_eq_true rfl⟩ rfl rfl (Nat.le_of_ble_eq_true rfl) d_rp_run_85 ⟨Nat.zero_le _, Nat.zero_le _⟩ ?_
    have hsi := siF_lt (p := b) (v := x) hn7
    refine V_istore (lv' := [(4, _), (3, _), (1, _), (0, _)]) C d_rp_run_88 (by decide) rfl ?_
    refine V_iload C d_rp_run_90 0 rfl ?_
    refine V_ifeq C 109 d_rp_run_92 (by decide) ⟨by omega, by omega⟩ (fun g0 => ?_) (fun g0 => ?_)
    · refine V_iinc (lv' := [(3, _), (4, _), (1, _), (0, _)]) C d_rp_run_109 1 rfl (by decide) rfl ?_
      refine V_goto C 37 d_rp_run_112 (by decide) ?_
      refine V_sub (lv' := [(3, _), (1, _), (0, _)]) [0, 2, 3] rfl ?_
      have h99 := ihx hxn
      unfold rnL at h99
      first | (rw [if_pos (by omega)] at h99; exact h99) | (rw [if_neg (by omega)] at h99; exact h99)
    · refine V_aload_n C d_rp_run_95 3 rfl ?_
      refine V_getr C 0 1 17 (by decide) rfl rfl in_rp (by decide) rfl wd_198 d_rp_run_96 ?_
      refine V_iload_n C d_rp_run_99 1 rfl ?_
      refine V_iload C d_rp_run_100 0 rfl ?_
      refine V_aload_n C d_rp_run_102 3 rfl ?_
      refine V_getr C 0 3 25 (by decide) rfl rfl in_rp (by decide) rfl wd_200 d_rp_run_103 ?_
      refine V_callVv C 17 (by decide) rfl rfl (c_rd_drive l w _ n nv ((hTx x).congr (fun k hk => by rw [zU_ne (by omega), chV_ne (by omega)])) (by intro i hi; rw [zU_ne (by decide), chV_ne (by decide)]; exact m20 x i hi) x (siF b x n) (by omega) (by omega) (by intro i hi; rw [zU_ne (by decide), chV_ne (by decide)]; exact m18 x i hi) (by intro i hi; rw [zU_ne (by decide), chV_ne (by decide)]; exact m29 x i hi)) wd_388 wd_389 wd_390 wd_4 wd_391 o_rd_drive ⟨rfl, rfl, Nat.le_of_ble_eq_true rfl, Nat.le_of_ble_eq_true rfl⟩ rfl rfl (Nat.le_of_ble_eq_true rfl) d_rp_run_106 ⟨Nat.zero_le _, Nat.zero_le _⟩ ?_
      refine V_iinc (lv' := [(3, _), (4, _), (1, _), (0, _)]) C d_rp_run_109 1 rfl (by decide) rfl ?_
      refine V_goto C 37 d_rp_run_112 (by decide) ?_
      refine V_sub (lv' := [(3, _), (1, _), (0, _)]) [0, 2, 3] rfl ?_
      have h99 := ihx hxn
      unfold rnL at h99
      first | (rw [if_pos (by omega)] at h99; exact h99) | (rw [if_neg (by omega)] at h99; exact h99)
