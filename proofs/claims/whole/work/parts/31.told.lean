/-! Told, Found: the small methods -/
set_option maxRecDepth 20000 in
set_option maxHeartbeats 4000000 in
theorem c_td_hasStop (l : Launch) (w : zW) (σ : Nat → Nat → Int) (k : Int) (hk : rI k) (n : Nat) (hn : σ 1 0 = (n : Int)) (hn7 : n ≤ 7) : zMi l w LL CC g_td_hasStop rm_td_hasStop [.ref (w.1 1), .int (zI (k))] σ (zB (0 ≤ k ∧ k < n)) (σ) := by
  refine zMi.of g_td_hasStop (by decide +kernel) (Nat.le_of_ble_eq_true rfl) rfl ?_
  intro p e u m args below meth c C hr
  have C : zC p u m args meth c prog_5_method_2_code 2 "RoundPlans$Told" w LL CC := C
  have hr : meth.sig.returnType = (some .boolean) := hr
  obtain ⟨hk1, hk2⟩ := id hk
  show V p l e rm_td_hasStop u m args below meth c 2 w LL CC 0 0 (MQ below (zQi w LL CC (zB (0 ≤ k ∧ k < n)) (σ) u.heap.size) args u 0 0 (zA w LL.1 u.heap.size)) 0 [(0, .ref (w.1 1)), (1, .int (zI (k)))] [] σ
  refine V_iload_n C d_td_hasStop_0 1 rfl ?_
  refine V_iflt C 16 d_td_hasStop_1 (by decide) ⟨by omega, by omega⟩ (fun h1 => ?_) (fun h1 => ?_)
  · refine V_iconst C d_td_hasStop_16 ?_
    exact V_zret C hr d_td_hasStop_17 (by decide) (by first | exact zB_t (by omega) | exact zB_f (by omega)) rfl
  · refine V_iload_n C d_td_hasStop_4 1 rfl ?_
    refine V_aload_n C d_td_hasStop_5 0 rfl ?_
    refine V_geti C 1 0 (by decide) rfl rfl in_td (by decide) rfl wd_30 d_td_hasStop_6 ?_
    refine V_ti hn ?_
    refine V_cmpge C 16 d_td_hasStop_9 (by decide) ⟨by omega, by omega⟩ ⟨by omega, by omega⟩ (fun h2 => ?_) (fun h2 => ?_)
    · refine V_iconst C d_td_hasStop_16 ?_
      exact V_zret C hr d_td_hasStop_17 (by decide) (by first | exact zB_t (by omega) | exact zB_f (by omega)) rfl
    · refine V_iconst C d_td_hasStop_12 ?_
      refine V_goto C 17 d_td_hasStop_13 (by decide) ?_
      exact V_zret C hr d_td_hasStop_17 (by decide) (by first | exact zB_t (by omega) | exact zB_f (by omega)) rfl

set_option maxRecDepth 20000 in
set_option maxHeartbeats 4000000 in
theorem c_td_hasVehicle (l : Launch) (w : zW) (σ : Nat → Nat → Int) (k : Int) (hk : rI k) (n : Nat) (hn : σ 1 1 = (n : Int)) (hn7 : n ≤ 3) : zMi l w LL CC g_td_hasVehicle rm_td_hasVehicle [.ref (w.1 1), .int (zI (k))] σ (zB (0 ≤ k ∧ k < n)) (σ) := by
  refine zMi.of g_td_hasVehicle (by decide +kernel) (Nat.le_of_ble_eq_true rfl) rfl ?_
  intro p e u m args below meth c C hr
  have C : zC p u m args meth c prog_5_method_3_code 2 "RoundPlans$Told" w LL CC := C
  have hr : meth.sig.returnType = (some .boolean) := hr
  obtain ⟨hk1, hk2⟩ := id hk
  show V p l e rm_td_hasVehicle u m args below meth c 2 w LL CC 0 0 (MQ below (zQi w LL CC (zB (0 ≤ k ∧ k < n)) (σ) u.heap.size) args u 0 0 (zA w LL.1 u.heap.size)) 0 [(0, .ref (w.1 1)), (1, .int (zI (k)))] [] σ
  refine V_iload_n C d_td_hasVehicle_0 1 rfl ?_
  refine V_iflt C 16 d_td_hasVehicle_1 (by decide) ⟨by omega, by omega⟩ (fun h1 => ?_) (fun h1 => ?_)
  · refine V_iconst C d_td_hasVehicle_16 ?_
    exact V_zret C hr d_td_hasVehicle_17 (by decide) (by first | exact zB_t (by omega) | exact zB_f (by omega)) rfl
  · refine V_iload_n C d_td_hasVehicle_4 1 rfl ?_
    refine V_aload_n C d_td_hasVehicle_5 0 rfl ?_
    refine V_geti C 1 1 (by decide) rfl rfl in_td (by decide) rfl wd_35 d_td_hasVehicle_6 ?_
    refine V_ti hn ?_
    refine V_cmpge C 16 d_td_hasVehicle_9 (by decide) ⟨by omega, by omega⟩ ⟨by omega, by omega⟩ (fun h2 => ?_) (fun h2 => ?_)
    · refine V_iconst C d_td_hasVehicle_16 ?_
      exact V_zret C hr d_td_hasVehicle_17 (by decide) (by first | exact zB_t (by omega) | exact zB_f (by omega)) rfl
    · refine V_iconst C d_td_hasVehicle_12 ?_
      refine V_goto C 17 d_td_hasVehicle_13 (by decide) ?_
      exact V_zret C hr d_td_hasVehicle_17 (by decide) (by first | exact zB_t (by omega) | exact zB_f (by omega)) rfl

set_option maxRecDepth 20000 in
set_option maxHeartbeats 4000000 in
theorem c_fd_hasStop (l : Launch) (w : zW) (σ : Nat → Nat → Int) (k : Int) (hk : rI k) (n : Nat) (hn : σ 25 0 = (n : Int)) (hn7 : n ≤ 7) : zMi l w LL CC g_fd_hasStop rm_fd_hasStop [.ref (w.1 25), .int (zI (k))] σ (zB (0 ≤ k ∧ k < n)) (σ) := by
  refine zMi.of g_fd_hasStop (by decide +kernel) (Nat.le_of_ble_eq_true rfl) rfl ?_
  intro p e u m args below meth c C hr
  have C : zC p u m args meth c prog_2_method_2_code 2 "RoundPlans$Found" w LL CC := C
  have hr : meth.sig.returnType = (some .boolean) := hr
  obtain ⟨hk1, hk2⟩ := id hk
  show V p l e rm_fd_hasStop u m args below meth c 2 w LL CC 0 0 (MQ below (zQi w LL CC (zB (0 ≤ k ∧ k < n)) (σ) u.heap.size) args u 0 0 (zA w LL.1 u.heap.size)) 0 [(0, .ref (w.1 25)), (1, .int (zI (k)))] [] σ
  refine V_iload_n C d_fd_hasStop_0 1 rfl ?_
  refine V_iflt C 16 d_fd_hasStop_1 (by decide) ⟨by omega, by omega⟩ (fun h1 => ?_) (fun h1 => ?_)
  · refine V_iconst C d_fd_hasStop_16 ?_
    exact V_zret C hr d_fd_hasStop_17 (by decide) (by first | exact zB_t (by omega) | exact zB_f (by omega)) rfl
  · refine V_iload_n C d_fd_hasStop_4 1 rfl ?_
    refine V_aload_n C d_fd_hasStop_5 0 rfl ?_
    refine V_geti C 25 0 (by decide) rfl rfl in_fd (by decide) rfl wd_161 d_fd_hasStop_6 ?_
    refine V_ti hn ?_
    refine V_cmpge C 16 d_fd_hasStop_9 (by decide) ⟨by omega, by omega⟩ ⟨by omega, by omega⟩ (fun h2 => ?_) (fun h2 => ?_)
    · refine V_iconst C d_fd_hasStop_16 ?_
      exact V_zret C hr d_fd_hasStop_17 (by decide) (by first | exact zB_t (by omega) | exact zB_f (by omega)) rfl
    · refine V_iconst C d_fd_hasStop_12 ?_
      refine V_goto C 17 d_fd_hasStop_13 (by decide) ?_
      exact V_zret C hr d_fd_hasStop_17 (by decide) (by first | exact zB_t (by omega) | exact zB_f (by omega)) rfl

set_option maxRecDepth 20000 in
set_option maxHeartbeats 4000000 in
theorem c_fd_hasVehicle (l : Launch) (w : zW) (σ : Nat → Nat → Int) (k : Int) (hk : rI k) (n : Nat) (hn : σ 25 1 = (n : Int)) (hn7 : n ≤ 3) : zMi l w LL CC g_fd_hasVehicle rm_fd_hasVehicle [.ref (w.1 25), .int (zI (k))] σ (zB (0 ≤ k ∧ k < n)) (σ) := by
  refine zMi.of g_fd_hasVehicle (by decide +kernel) (Nat.le_of_ble_eq_true rfl) rfl ?_
  intro p e u m args below meth c C hr
  have C : zC p u m args meth c prog_2_method_3_code 2 "RoundPlans$Found" w LL CC := C
  have hr : meth.sig.returnType = (some .boolean) := hr
  obtain ⟨hk1, hk2⟩ := id hk
  show V p l e rm_fd_hasVehicle u m args below meth c 2 w LL CC 0 0 (MQ below (zQi w LL CC (zB (0 ≤ k ∧ k < n)) (σ) u.heap.size) args u 0 0 (zA w LL.1 u.heap.size)) 0 [(0, .ref (w.1 25)), (1, .int (zI (k)))] [] σ
  refine V_iload_n C d_fd_hasVehicle_0 1 rfl ?_
  refine V_iflt C 16 d_fd_hasVehicle_1 (by decide) ⟨by omega, by omega⟩ (fun h1 => ?_) (fun h1 => ?_)
  · refine V_iconst C d_fd_hasVehicle_16 ?_
    exact V_zret C hr d_fd_hasVehicle_17 (by decide) (by first | exact zB_t (by omega) | exact zB_f (by omega)) rfl
  · refine V_iload_n C d_fd_hasVehicle_4 1 rfl ?_
    refine V_aload_n C d_fd_hasVehicle_5 0 rfl ?_
    refine V_geti C 25 1 (by decide) rfl rfl in_fd (by decide) rfl wd_162 d_fd_hasVehicle_6 ?_
    refine V_ti hn ?_
    refine V_cmpge C 16 d_fd_hasVehicle_9 (by decide) ⟨by omega, by omega⟩ ⟨by omega, by omega⟩ (fun h2 => ?_) (fun h2 => ?_)
    · refine V_iconst C d_fd_hasVehicle_16 ?_
      exact V_zret C hr d_fd_hasVehicle_17 (by decide) (by first | exact zB_t (by omega) | exact zB_f (by omega)) rfl
    · refine V_iconst C d_fd_hasVehicle_12 ?_
      refine V_goto C 17 d_fd_hasVehicle_13 (by decide) ?_
      exact V_zret C hr d_fd_hasVehicle_17 (by decide) (by first | exact zB_t (by omega) | exact zB_f (by omega)) rfl

set_option maxRecDepth 20000 in
set_option maxHeartbeats 4000000 in
theorem c_td_areTwoStops (l : Launch) (w : zW) (σ : Nat → Nat → Int) (a b : Int) (ha : rI a) (hb : rI b) (n : Nat) (hn : σ 1 0 = (n : Int)) (hn7 : n ≤ 7) : zMi l w LL CC g_td_areTwoStops rm_td_areTwoStops [.ref (w.1 1), .int (zI (a)), .int (zI (b))] σ (zB (0 ≤ a ∧ a < n ∧ 0 ≤ b ∧ b < n ∧ a ≠ b)) (σ) := by
  refine zMi.of g_td_areTwoStops (by decide +kernel) (Nat.le_of_ble_eq_true rfl) rfl ?_
  intro p e u m args below meth c C hr
  have C : zC p u m args meth c prog_5_method_4_code 3 "RoundPlans$Told" w LL CC := C
  have hr : meth.sig.returnType = (some .boolean) := hr
  obtain ⟨ha1, ha2⟩ := id ha
  obtain ⟨hb1, hb2⟩ := id hb
  show V p l e rm_td_areTwoStops u m args below meth c 3 w LL CC 0 0 (MQ below (zQi w LL CC (zB (0 ≤ a ∧ a < n ∧ 0 ≤ b ∧ b < n ∧ a ≠ b)) (σ) u.heap.size) args u 0 0 (zA w LL.1 u.heap.size)) 0 [(0, .ref (w.1 1)), (1, .int (zI (a))), (2, .int (zI (b)))] [] σ
  refine V_aload_n C d_td_areTwoStops_0 0 rfl ?_
  refine V_iload_n C d_td_areTwoStops_1 1 rfl ?_
  refine V_callVi C 1 (by decide) rfl rfl (c_td_hasStop l w σ a ha n hn hn7) wd_269 wd_227 wd_228 wd_2 wd_229 o_td_hasStop ⟨rfl, rfl, Nat.le_of_ble_eq_true rfl, Nat.le_of_ble_eq_true rfl⟩ rfl rfl (Nat.le_of_ble_eq_true rfl) d_td_areTwoStops_2 ⟨Nat.zero_le _, Nat.zero_le _⟩ ?_
  refine V_ifeqB C 25 d_td_areTwoStops_5 (by decide) (fun h1 => ?_) (fun h1 => ?_)
  · refine V_iconst C d_td_areTwoStops_25 ?_
    exact V_zret C hr d_td_areTwoStops_26 (by decide) (by first | exact zB_t (by omega) | exact zB_f (by omega)) rfl
  · refine V_aload_n C d_td_areTwoStops_8 0 rfl ?_
    refine V_iload_n C d_td_areTwoStops_9 2 rfl ?_
    refine V_callVi C 1 (by decide) rfl rfl (c_td_hasStop l w σ b hb n hn hn7) wd_269 wd_227 wd_228 wd_2 wd_229 o_td_hasStop ⟨rfl, rfl, Nat.le_of_ble_eq_true rfl, Nat.le_of_ble_eq_true rfl⟩ rfl rfl (Nat.le_of_ble_eq_true rfl) d_td_areTwoStops_10 ⟨Nat.zero_le _, Nat.zero_le _⟩ ?_
    refine V_ifeqB C 25 d_td_areTwoStops_13 (by decide) (fun h2 => ?_) (fun h2 => ?_)
    · refine V_iconst C d_td_areTwoStops_25 ?_
      exact V_zret C hr d_td_areTwoStops_26 (by decide) (by first | exact zB_t (by omega) | exact zB_f (by omega)) rfl
    · refine V_iload_n C d_td_areTwoStops_16 1 rfl ?_
      refine V_iload_n C d_td_areTwoStops_17 2 rfl ?_
      refine V_cmpeq C 25 d_td_areTwoStops_18 (by decide) ⟨by omega, by omega⟩ ⟨by omega, by omega⟩ (fun h3 => ?_) (fun h3 => ?_)
      · refine V_iconst C d_td_areTwoStops_25 ?_
        exact V_zret C hr d_td_areTwoStops_26 (by decide) (by first | exact zB_t (by omega) | exact zB_f (by omega)) rfl
      · refine V_iconst C d_td_areTwoStops_21 ?_
        refine V_goto C 26 d_td_areTwoStops_22 (by decide) ?_
        exact V_zret C hr d_td_areTwoStops_26 (by decide) (by first | exact zB_t (by omega) | exact zB_f (by omega)) rfl

set_option maxRecDepth 20000 in
set_option maxHeartbeats 4000000 in
theorem c_td_addStop (l : Launch) (w : zW) (σ : Nat → Nat → Int) (k : Int) (n : Nat) (hn : σ 1 0 = (n : Int)) (hn7 : n < 7) : zMi l w LL CC g_td_addStop rm_td_addStop [.ref (w.1 1), .int (zI (k))] σ ((n : Int)) (zU (zU σ 2 n k) 1 0 (n + 1)) := by
  refine zMi.of g_td_addStop (by decide +kernel) (Nat.le_of_ble_eq_true rfl) rfl ?_
  intro p e u m args below meth c C hr
  have C : zC p u m args meth c prog_5_method_5_code 2 "RoundPlans$Told" w LL CC := C
  have hr : meth.sig.returnType = (some .int) := hr
  show V p l e rm_td_addStop u m args below meth c 2 w LL CC 0 0 (MQ below (zQi w LL CC ((n : Int)) (zU (zU σ 2 n k) 1 0 (n + 1)) u.heap.size) args u 0 0 (zA w LL.1 u.heap.size)) 0 [(0, .ref (w.1 1)), (1, .int (zI (k)))] [] σ
  refine V_aload_n C d_td_addStop_0 0 rfl ?_
  refine V_getr C 1 2 2 (by decide) rfl rfl in_td (by decide) rfl wd_39 d_td_addStop_1 ?_
  refine V_aload_n C d_td_addStop_4 0 rfl ?_
  refine V_geti C 1 0 (by decide) rfl rfl in_td (by decide) rfl wd_30 d_td_addStop_5 ?_
  refine V_ti hn ?_
  refine V_iload_n C d_td_addStop_8 1 rfl ?_
  refine V_iast C 2 _ (by decide) rfl rfl (by omega) (by decide) d_td_addStop_9 ?_
  refine V_aload_n C d_td_addStop_10 0 rfl ?_
  refine V_dup C d_td_addStop_11 rfl ?_
  refine V_geti C 1 0 (by decide) rfl rfl in_td (by decide) rfl wd_30 d_td_addStop_12 ?_
  refine V_ti (b := (n : Int)) hn ?_
  refine V_iconst C d_td_addStop_15 ?_
  refine V_iadd C d_td_addStop_16 ?_
  refine V_put C 1 0 (by decide) rfl rfl in_td ty_td tk_td nm_td (by decide) rfl wd_30 rfl rfl rfl rfl d_td_addStop_17 ?_
  refine V_aload_n C d_td_addStop_20 0 rfl ?_
  refine V_geti C 1 0 (by decide) rfl rfl in_td (by decide) rfl wd_30 d_td_addStop_21 ?_
  refine V_ti (b := (n : Int) + 1) zU_self ?_
  refine V_iconst C d_td_addStop_24 ?_
  refine V_isub C d_td_addStop_25 ?_
  exact V_iret C hr d_td_addStop_26 (by omega) rfl

set_option maxRecDepth 20000 in
set_option maxHeartbeats 4000000 in
theorem c_td_addVehicle (l : Launch) (w : zW) (σ : Nat → Nat → Int) (a b k r : Int) (nv : Nat) (hv : σ 1 1 = (nv : Int)) (hv3 : nv < 3) : zMi l w LL CC g_td_addVehicle rm_td_addVehicle [.ref (w.1 1), .int (zI (a)), .int (zI (b)), .int (zI (k)), .int (zI (r))] σ ((nv : Int)) (zU (zU (zU (zU (zU σ 12 nv a) 13 nv b) 14 nv k) 15 nv r) 1 1 (nv + 1)) := by
  refine zMi.of g_td_addVehicle (by decide +kernel) (Nat.le_of_ble_eq_true rfl) rfl ?_
  intro p e u m args below meth c C hr
  have C : zC p u m args meth c prog_5_method_6_code 5 "RoundPlans$Told" w LL CC := C
  have hr : meth.sig.returnType = (some .int) := hr
  show V p l e rm_td_addVehicle u m args below meth c 5 w LL CC 0 0 (MQ below (zQi w LL CC ((nv : Int)) (zU (zU (zU (zU (zU σ 12 nv a) 13 nv b) 14 nv k) 15 nv r) 1 1 (nv + 1)) u.heap.size) args u 0 0 (zA w LL.1 u.heap.size)) 0 [(0, .ref (w.1 1)), (1, .int (zI (a))), (2, .int (zI (b))), (3, .int (zI (k))), (4, .int (zI (r)))] [] σ
  refine V_aload_n C d_td_addVehicle_0 0 rfl ?_
  refine V_getr C 1 12 12 (by decide) rfl rfl in_td (by decide) rfl wd_65 d_td_addVehicle_1 ?_
  refine V_aload_n C d_td_addVehicle_4 0 rfl ?_
  refine V_geti C 1 1 (by decide) rfl rfl in_td (by decide) rfl wd_35 d_td_addVehicle_5 ?_
  refine V_ti hv ?_
  refine V_iload_n C d_td_addVehicle_8 1 rfl ?_
  refine V_iast C 12 _ (by decide) rfl rfl (by omega) (by decide) d_td_addVehicle_9 ?_
  refine V_aload_n C d_td_addVehicle_10 0 rfl ?_
  refine V_getr C 1 13 13 (by decide) rfl rfl in_td (by decide) rfl wd_67 d_td_addVehicle_11 ?_
  refine V_aload_n C d_td_addVehicle_14 0 rfl ?_
  refine V_geti C 1 1 (by decide) rfl rfl in_td (by decide) rfl wd_35 d_td_addVehicle_15 ?_
  refine V_ti hv ?_
  refine V_iload_n C d_td_addVehicle_18 2 rfl ?_
  refine V_iast C 13 _ (by decide) rfl rfl (by omega) (by decide) d_td_addVehicle_19 ?_
  refine V_aload_n C d_td_addVehicle_20 0 rfl ?_
  refine V_getr C 1 14 14 (by decide) rfl rfl in_td (by decide) rfl wd_70 d_td_addVehicle_21 ?_
  refine V_aload_n C d_td_addVehicle_24 0 rfl ?_
  refine V_geti C 1 1 (by decide) rfl rfl in_td (by decide) rfl wd_35 d_td_addVehicle_25 ?_
  refine V_ti hv ?_
  refine V_iload_n C d_td_addVehicle_28 3 rfl ?_
  refine V_iast C 14 _ (by decide) rfl rfl (by omega) (by decide) d_td_addVehicle_29 ?_
  refine V_aload_n C d_td_addVehicle_30 0 rfl ?_
  refine V_getr C 1 15 15 (by decide) rfl rfl in_td (by decide) rfl wd_72 d_td_addVehicle_31 ?_
  refine V_aload_n C d_td_addVehicle_34 0 rfl ?_
  refine V_geti C 1 1 (by decide) rfl rfl in_td (by decide) rfl wd_35 d_td_addVehicle_35 ?_
  refine V_ti hv ?_
  refine V_iload C d_td_addVehicle_38 4 rfl ?_
  refine V_iast C 15 _ (by decide) rfl rfl (by omega) (by decide) d_td_addVehicle_40 ?_
  refine V_aload_n C d_td_addVehicle_41 0 rfl ?_
  refine V_dup C d_td_addVehicle_42 rfl ?_
  refine V_geti C 1 1 (by decide) rfl rfl in_td (by decide) rfl wd_35 d_td_addVehicle_43 ?_
  refine V_ti hv ?_
  refine V_iconst C d_td_addVehicle_46 ?_
  refine V_iadd C d_td_addVehicle_47 ?_
  refine V_put C 1 1 (by decide) rfl rfl in_td ty_td tk_td nm_td (by decide) rfl wd_35 rfl rfl rfl rfl d_td_addVehicle_48 ?_
  refine V_aload_n C d_td_addVehicle_51 0 rfl ?_
  refine V_geti C 1 1 (by decide) rfl rfl in_td (by decide) rfl wd_35 d_td_addVehicle_52 ?_
  refine V_ti (b := (nv : Int) + 1) zU_self ?_
  refine V_iconst C d_td_addVehicle_55 ?_
  refine V_isub C d_td_addVehicle_56 ?_
  exact V_iret C hr d_td_addVehicle_57 (by omega) rfl

set_option maxRecDepth 20000 in
set_option maxHeartbeats 4000000 in
theorem c_td_seconds (l : Launch) (w : zW) (σ : Nat → Nat → Int) (a b : Nat) (ha : a < 8) (hb : b < 8) : zMi l w LL CC g_td_seconds rm_td_seconds [.ref (w.1 1), .int (zI ((a : Int))), .int (zI ((b : Int)))] σ (σ 16 (a * 8 + b)) (σ) := by
  refine zMi.of g_td_seconds (by decide +kernel) (Nat.le_of_ble_eq_true rfl) rfl ?_
  intro p e u m args below meth c C hr
  have C : zC p u m args meth c prog_5_method_9_code 3 "RoundPlans$Told" w LL CC := C
  have hr : meth.sig.returnType = (some .int) := hr
  show V p l e rm_td_seconds u m args below meth c 3 w LL CC 0 0 (MQ below (zQi w LL CC (σ 16 (a * 8 + b)) (σ) u.heap.size) args u 0 0 (zA w LL.1 u.heap.size)) 0 [(0, .ref (w.1 1)), (1, .int (zI ((a : Int)))), (2, .int (zI ((b : Int))))] [] σ
  refine V_aload_n C d_td_seconds_0 0 rfl ?_
  refine V_getr C 1 16 16 (by decide) rfl rfl in_td (by decide) rfl wd_74 d_td_seconds_1 ?_
  refine V_iload_n C d_td_seconds_4 1 rfl ?_
  refine V_bipush C d_td_seconds_5 (by decide) ?_
  refine V_imul C d_td_seconds_7 ?_
  refine V_iload_n C d_td_seconds_8 2 rfl ?_
  refine V_iadd C d_td_seconds_9 ?_
  refine V_iald C 16 (a * 8 + b) (by decide) rfl (by omega) (by omega) (by decide) d_td_seconds_10 ?_
  exact V_iret C hr d_td_seconds_11 rfl rfl

set_option maxRecDepth 20000 in
set_option maxHeartbeats 4000000 in
theorem c_td_setApart (l : Launch) (w : zW) (σ : Nat → Nat → Int) (a b : Nat) (ha : a < 7) (hb : b < 7) (hab : b ≠ a) (t : Int) (ht : t = 0 ∨ t = 1) (hx : bd σ 8 7 0 127) : zMv l w LL CC g_td_setApart rm_td_setApart [.ref (w.1 1), .int (zI ((a : Int))), .int (zI ((b : Int))), .int (zI (t))] σ (sApart σ a b t) := by
  refine zMv.of g_td_setApart (by decide +kernel) (Nat.le_of_ble_eq_true rfl) rfl ?_
  intro p e u m args below meth c C hr
  have C : zC p u m args meth c prog_5_method_7_code 4 "RoundPlans$Told" w LL CC := C
  have hr : meth.sig.returnType = none := hr
  show V p l e rm_td_setApart u m args below meth c 4 w LL CC 0 0 (MQ below (zQv w LL CC (sApart σ a b t) u.heap.size) args u 0 0 (zA w LL.1 u.heap.size)) 0 [(0, .ref (w.1 1)), (1, .int (zI ((a : Int)))), (2, .int (zI ((b : Int)))), (3, .int (zI (t)))] [] σ
  refine V_aload_n C d_td_setApart_0 0 rfl ?_
  refine V_getr C 1 8 8 (by decide) rfl rfl in_td (by decide) rfl wd_56 d_td_setApart_1 ?_
  refine V_iload_n C d_td_setApart_4 1 rfl ?_
  refine V_iload_n C d_td_setApart_5 3 rfl ?_
  refine V_ifeq C 22 d_td_setApart_6 (by decide) ⟨by omega, by omega⟩ (fun h1 => ?_) (fun h1 => ?_)
  · refine V_aload_n C d_td_setApart_22 0 rfl ?_
    refine V_getr C 1 8 8 (by decide) rfl rfl in_td (by decide) rfl wd_56 d_td_setApart_23 ?_
    refine V_iload_n C d_td_setApart_26 1 rfl ?_
    refine V_iald C 8 _ (by decide) rfl rfl (by omega) (by decide) d_td_setApart_27 ?_
    refine V_ti (b := (((σ 8 a).toNat : Nat) : Int)) (by have := hx a ha; omega) ?_
    refine V_iload_n C d_td_setApart_28 2 rfl ?_
    refine V_callNi C (c_rp_without l w σ (σ 8 a).toNat b (by have := hx a ha; omega) hb) ns_7 wd_278 wd_1 wd_279 o_rp_without ⟨rfl, rfl, Nat.le_of_ble_eq_true rfl, Nat.le_of_ble_eq_true rfl⟩ rfl rfl (Nat.le_of_ble_eq_true rfl) d_td_setApart_29 ⟨Nat.zero_le _, Nat.zero_le _⟩ ?_
    refine V_iast C 8 _ (by decide) rfl rfl (by omega) (by decide) d_td_setApart_32 ?_
    refine V_aload_n C d_td_setApart_33 0 rfl ?_
    refine V_getr C 1 8 8 (by decide) rfl rfl in_td (by decide) rfl wd_56 d_td_setApart_34 ?_
    refine V_iload_n C d_td_setApart_37 2 rfl ?_
    refine V_iload_n C d_td_setApart_38 3 rfl ?_
    refine V_ifeq C 55 d_td_setApart_39 (by decide) ⟨by omega, by omega⟩ (fun h2 => ?_) (fun h2 => ?_)
    · refine V_aload_n C d_td_setApart_55 0 rfl ?_
      refine V_getr C 1 8 8 (by decide) rfl rfl in_td (by decide) rfl wd_56 d_td_setApart_56 ?_
      refine V_iload_n C d_td_setApart_59 2 rfl ?_
      refine V_iald C 8 _ (by decide) rfl rfl (by omega) (by decide) d_td_setApart_60 ?_
      refine V_ti (b := (((σ 8 b).toNat : Nat) : Int)) (by rw [zU_nj hab]; have := hx b hb; omega) ?_
      refine V_iload_n C d_td_setApart_61 1 rfl ?_
      refine V_callNi C (c_rp_without l w _ (σ 8 b).toNat a (by have := hx b hb; omega) ha) ns_7 wd_278 wd_1 wd_279 o_rp_without ⟨rfl, rfl, Nat.le_of_ble_eq_true rfl, Nat.le_of_ble_eq_true rfl⟩ rfl rfl (Nat.le_of_ble_eq_true rfl) d_td_setApart_62 ⟨Nat.zero_le _, Nat.zero_le _⟩ ?_
      refine V_iast C 8 _ (by decide) rfl rfl (by omega) (by decide) d_td_setApart_65 ?_
      exact V_vret C hr d_td_setApart_66 (by unfold sApart apF; first | (exfalso; omega) | (rw [if_pos (by omega), if_pos (by omega)]) | (rw [if_neg (by omega), if_neg (by omega)]) | omega)
    · refine V_aload_n C d_td_setApart_42 0 rfl ?_
      refine V_getr C 1 8 8 (by decide) rfl rfl in_td (by decide) rfl wd_56 d_td_setApart_43 ?_
      refine V_iload_n C d_td_setApart_46 2 rfl ?_
      refine V_iald C 8 _ (by decide) rfl rfl (by omega) (by decide) d_td_setApart_47 ?_
      refine V_ti (b := (((σ 8 b).toNat : Nat) : Int)) (by rw [zU_nj hab]; have := hx b hb; omega) ?_
      refine V_iload_n C d_td_setApart_48 1 rfl ?_
      refine V_callNi C (c_rp_with l w _ (σ 8 b).toNat a ha) ns_6 wd_275 wd_1 wd_276 o_rp_with ⟨rfl, rfl, Nat.le_of_ble_eq_true rfl, Nat.le_of_ble_eq_true rfl⟩ rfl rfl (Nat.le_of_ble_eq_true rfl) d_td_setApart_49 ⟨Nat.zero_le _, Nat.zero_le _⟩ ?_
      refine V_goto C 65 d_td_setApart_52 (by decide) ?_
      refine V_iast C 8 _ (by decide) rfl rfl (by omega) (by decide) d_td_setApart_65 ?_
      exact V_vret C hr d_td_setApart_66 (by unfold sApart apF; first | (exfalso; omega) | (rw [if_pos (by omega), if_pos (by omega)]) | (rw [if_neg (by omega), if_neg (by omega)]) | omega)
  · refine V_aload_n C d_td_setApart_9 0 rfl ?_
    refine V_getr C 1 8 8 (by decide) rfl rfl in_td (by decide) rfl wd_56 d_td_setApart_10 ?_
    refine V_iload_n C d_td_setApart_13 1 rfl ?_
    refine V_iald C 8 _ (by decide) rfl rfl (by omega) (by decide) d_td_setApart_14 ?_
    refine V_ti (b := (((σ 8 a).toNat : Nat) : Int)) (by have := hx a ha; omega) ?_
    refine V_iload_n C d_td_setApart_15 2 rfl ?_
    refine V_callNi C (c_rp_with l w σ (σ 8 a).toNat b hb) ns_6 wd_275 wd_1 wd_276 o_rp_with ⟨rfl, rfl, Nat.le_of_ble_eq_true rfl, Nat.le_of_ble_eq_true rfl⟩ rfl rfl (Nat.le_of_ble_eq_true rfl) d_td_setApart_16 ⟨Nat.zero_le _, Nat.zero_le _⟩ ?_
    refine V_goto C 32 d_td_setApart_19 (by decide) ?_
    refine V_iast C 8 _ (by decide) rfl rfl (by omega) (by decide) d_td_setApart_32 ?_
    refine V_aload_n C d_td_setApart_33 0 rfl ?_
    refine V_getr C 1 8 8 (by decide) rfl rfl in_td (by decide) rfl wd_56 d_td_setApart_34 ?_
    refine V_iload_n C d_td_setApart_37 2 rfl ?_
    refine V_iload_n C d_td_setApart_38 3 rfl ?_
    refine V_ifeq C 55 d_td_setApart_39 (by decide) ⟨by omega, by omega⟩ (fun h3 => ?_) (fun h3 => ?_)
    · refine V_aload_n C d_td_setApart_55 0 rfl ?_
      refine V_getr C 1 8 8 (by decide) rfl rfl in_td (by decide) rfl wd_56 d_td_setApart_56 ?_
      refine V_iload_n C d_td_setApart_59 2 rfl ?_
      refine V_iald C 8 _ (by decide) rfl rfl (by omega) (by decide) d_td_setApart_60 ?_
      refine V_ti (b := (((σ 8 b).toNat : Nat) : Int)) (by rw [zU_nj hab]; have := hx b hb; omega) ?_
      refine V_iload_n C d_td_setApart_61 1 rfl ?_
      refine V_callNi C (c_rp_without l w _ (σ 8 b).toNat a (by have := hx b hb; omega) ha) ns_7 wd_278 wd_1 wd_279 o_rp_without ⟨rfl, rfl, Nat.le_of_ble_eq_true rfl, Nat.le_of_ble_eq_true rfl⟩ rfl rfl (Nat.le_of_ble_eq_true rfl) d_td_setApart_62 ⟨Nat.zero_le _, Nat.zero_le _⟩ ?_
      refine V_iast C 8 _ (by decide) rfl rfl (by omega) (by decide) d_td_setApart_65 ?_
      exact V_vret C hr d_td_setApart_66 (by unfold sApart apF; first | (exfalso; omega) | (rw [if_pos (by omega), if_pos (by omega)]) | (rw [if_neg (by omega), if_neg (by omega)]) | omega)
    · refine V_aload_n C d_td_setApart_42 0 rfl ?_
      refine V_getr C 1 8 8 (by decide) rfl rfl in_td (by decide) rfl wd_56 d_td_setApart_43 ?_
      refine V_iload_n C d_td_setApart_46 2 rfl ?_
      refine V_iald C 8 _ (by decide) rfl rfl (by omega) (by decide) d_td_setApart_47 ?_
      refine V_ti (b := (((σ 8 b).toNat : Nat) : Int)) (by rw [zU_nj hab]; have := hx b hb; omega) ?_
      refine V_iload_n C d_td_setApart_48 1 rfl ?_
      refine V_callNi C (c_rp_with l w _ (σ 8 b).toNat a ha) ns_6 wd_275 wd_1 wd_276 o_rp_with ⟨rfl, rfl, Nat.le_of_ble_eq_true rfl, Nat.le_of_ble_eq_true rfl⟩ rfl rfl (Nat.le_of_ble_eq_true rfl) d_td_setApart_49 ⟨Nat.zero_le _, Nat.zero_le _⟩ ?_
      refine V_goto C 65 d_td_setApart_52 (by decide) ?_
      refine V_iast C 8 _ (by decide) rfl rfl (by omega) (by decide) d_td_setApart_65 ?_
      exact V_vret C hr d_td_setApart_66 (by unfold sApart apF; first | (exfalso; omega) | (rw [if_pos (by omega), if_pos (by omega)]) | (rw [if_neg (by omega), if_neg (by omega)]) | omega)
