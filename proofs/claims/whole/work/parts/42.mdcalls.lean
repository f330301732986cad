/-! the reference's calls but run -/
set_option maxRecDepth 20000 in
set_option maxHeartbeats 4000000 in
theorem c_md_isIn (l : Launch) (w : zW) (σ : Nat → Nat → Int) (v a b : Int) (hv : rL v) (ha : rL a) (hb : rL b) : zMi l w LL CC g_md_isIn rm_md_isIn [.long (zL (v)), .long (zL (a)), .long (zL (b))] σ (zB (a ≤ v ∧ v ≤ b)) (σ) := by
  refine zMi.of g_md_isIn (by decide +kernel) (Nat.le_of_ble_eq_true rfl) rfl ?_
  intro p e u m args below meth c C hr
  have C : zC p u m args meth c prog_7_method_3_code 6 "RoundPlansModel" w LL CC := C
  have hr : meth.sig.returnType = (some .boolean) := hr
  obtain ⟨hv1, hv2⟩ := id hv
  obtain ⟨ha1, ha2⟩ := id ha
  obtain ⟨hb1, hb2⟩ := id hb
  show V p l e rm_md_isIn u m args below meth c 6 w LL CC 0 0 (MQ below (zQi w LL CC (zB (a ≤ v ∧ v ≤ b)) (σ) u.heap.size) args u 0 0 (zA w LL.1 u.heap.size)) 0 [(0, .long (zL (v))), (2, .long (zL (a))), (4, .long (zL (b)))] [] σ
  refine V_lload_n C d_md_isIn_0 0 rfl ?_
  refine V_lload_n C d_md_isIn_1 1 rfl ?_
  refine V_lcmp C d_md_isIn_2 hv ha ?_
  refine V_iflt C 17 d_md_isIn_3 (by decide) (by split; exact rI_1; split; exact rI_0; exact ⟨by decide, by decide⟩) (fun c1 => ?_) (fun c1 => ?_)
  · have c1 : v < a := by split at c1; omega; split at c1 <;> omega
    refine V_iconst C d_md_isIn_17 ?_
    exact V_zret C hr d_md_isIn_18 (by decide) (by first | exact zB_t (by omega) | exact zB_f (by omega)) rfl
  · have c1 : a ≤ v := by split at c1; omega; split at c1 <;> omega
    refine V_lload_n C d_md_isIn_6 0 rfl ?_
    refine V_lload C d_md_isIn_7 2 rfl ?_
    refine V_lcmp C d_md_isIn_9 hv hb ?_
    refine V_ifgt C 17 d_md_isIn_10 (by decide) (by split; exact rI_1; split; exact rI_0; exact ⟨by decide, by decide⟩) (fun c2 => ?_) (fun c2 => ?_)
    · have c2 : b < v := by split at c2; omega; split at c2 <;> omega
      refine V_iconst C d_md_isIn_17 ?_
      exact V_zret C hr d_md_isIn_18 (by decide) (by first | exact zB_t (by omega) | exact zB_f (by omega)) rfl
    · have c2 : v ≤ b := by split at c2; omega; split at c2 <;> omega
      refine V_iconst C d_md_isIn_13 ?_
      refine V_goto C 18 d_md_isIn_14 (by decide) ?_
      exact V_zret C hr d_md_isIn_18 (by decide) (by first | exact zB_t (by omega) | exact zB_f (by omega)) rfl

set_option maxRecDepth 20000 in
set_option maxHeartbeats 4000000 in
theorem c_md_isStop (l : Launch) (w : zW) (σ : Nat → Nat → Int) (k : Int) (hk : rI k) (n : Nat) (hn : σ 32 0 = (n : Int)) (hn7 : n ≤ 7) : zMi l w LL CC g_md_isStop rm_md_isStop [.ref (w.1 32), .int (zI (k))] σ (zB (0 ≤ k ∧ k < n)) (σ) := by
  refine zMi.of g_md_isStop (by decide +kernel) (Nat.le_of_ble_eq_true rfl) rfl ?_
  intro p e u m args below meth c C hr
  have C : zC p u m args meth c prog_7_method_4_code 2 "RoundPlansModel" w LL CC := C
  have hr : meth.sig.returnType = (some .boolean) := hr
  obtain ⟨hk1, hk2⟩ := id hk
  show V p l e rm_md_isStop u m args below meth c 2 w LL CC 0 0 (MQ below (zQi w LL CC (zB (0 ≤ k ∧ k < n)) (σ) u.heap.size) args u 0 0 (zA w LL.1 u.heap.size)) 0 [(0, .ref (w.1 32)), (1, .int (zI (k)))] [] σ
  refine V_iload_n C d_md_isStop_0 1 rfl ?_
  refine V_iflt C 16 d_md_isStop_1 (by decide) ⟨by omega, by omega⟩ (fun h1 => ?_) (fun h1 => ?_)
  · refine V_iconst C d_md_isStop_16 ?_
    exact V_zret C hr d_md_isStop_17 (by decide) (by first | exact zB_t (by omega) | exact zB_f (by omega)) rfl
  · refine V_iload_n C d_md_isStop_4 1 rfl ?_
    refine V_aload_n C d_md_isStop_5 0 rfl ?_
    refine V_geti C 32 0 (by decide) rfl rfl in_md (by decide) rfl wd_454 d_md_isStop_6 ?_
    refine V_ti hn ?_
    refine V_cmpge C 16 d_md_isStop_9 (by decide) ⟨by omega, by omega⟩ ⟨by omega, by omega⟩ (fun h2 => ?_) (fun h2 => ?_)
    · refine V_iconst C d_md_isStop_16 ?_
      exact V_zret C hr d_md_isStop_17 (by decide) (by first | exact zB_t (by omega) | exact zB_f (by omega)) rfl
    · refine V_iconst C d_md_isStop_12 ?_
      refine V_goto C 17 d_md_isStop_13 (by decide) ?_
      exact V_zret C hr d_md_isStop_17 (by decide) (by first | exact zB_t (by omega) | exact zB_f (by omega)) rfl

set_option maxRecDepth 20000 in
set_option maxHeartbeats 4000000 in
theorem c_md_arePair (l : Launch) (w : zW) (σ : Nat → Nat → Int) (a b : Int) (ha : rI a) (hb : rI b) (n : Nat) (hn : σ 32 0 = (n : Int)) (hn7 : n ≤ 7) : zMi l w LL CC g_md_arePair rm_md_arePair [.ref (w.1 32), .int (zI (a)), .int (zI (b))] σ (zB (0 ≤ a ∧ a < n ∧ 0 ≤ b ∧ b < n ∧ a ≠ b)) (σ) := by
  refine zMi.of g_md_arePair (by decide +kernel) (Nat.le_of_ble_eq_true rfl) rfl ?_
  intro p e u m args below meth c C hr
  have C : zC p u m args meth c prog_7_method_5_code 3 "RoundPlansModel" w LL CC := C
  have hr : meth.sig.returnType = (some .boolean) := hr
  obtain ⟨ha1, ha2⟩ := id ha
  obtain ⟨hb1, hb2⟩ := id hb
  show V p l e rm_md_arePair u m args below meth c 3 w LL CC 0 0 (MQ below (zQi w LL CC (zB (0 ≤ a ∧ a < n ∧ 0 ≤ b ∧ b < n ∧ a ≠ b)) (σ) u.heap.size) args u 0 0 (zA w LL.1 u.heap.size)) 0 [(0, .ref (w.1 32)), (1, .int (zI (a))), (2, .int (zI (b)))] [] σ
  refine V_aload_n C d_md_arePair_0 0 rfl ?_
  refine V_iload_n C d_md_arePair_1 1 rfl ?_
  refine V_callVi C 32 (by decide) rfl rfl (c_md_isStop l w σ a ha n hn hn7) wd_553 wd_555 ws_11 wd_7 wd_556 o_md_isStop ⟨rfl, rfl, Nat.le_of_ble_eq_true rfl, Nat.le_of_ble_eq_true rfl⟩ rfl rfl (Nat.le_of_ble_eq_true rfl) d_md_arePair_2 ⟨Nat.zero_le _, Nat.zero_le _⟩ ?_
  refine V_ifeqB C 25 d_md_arePair_5 (by decide) (fun h1 => ?_) (fun h1 => ?_)
  · refine V_iconst C d_md_arePair_25 ?_
    exact V_zret C hr d_md_arePair_26 (by decide) (by first | exact zB_t (by omega) | exact zB_f (by omega)) rfl
  · refine V_aload_n C d_md_arePair_8 0 rfl ?_
    refine V_iload_n C d_md_arePair_9 2 rfl ?_
    refine V_callVi C 32 (by decide) rfl rfl (c_md_isStop l w σ b hb n hn hn7) wd_553 wd_555 ws_11 wd_7 wd_556 o_md_isStop ⟨rfl, rfl, Nat.le_of_ble_eq_true rfl, Nat.le_of_ble_eq_true rfl⟩ rfl rfl (Nat.le_of_ble_eq_true rfl) d_md_arePair_10 ⟨Nat.zero_le _, Nat.zero_le _⟩ ?_
    refine V_ifeqB C 25 d_md_arePair_13 (by decide) (fun h2 => ?_) (fun h2 => ?_)
    · refine V_iconst C d_md_arePair_25 ?_
      exact V_zret C hr d_md_arePair_26 (by decide) (by first | exact zB_t (by omega) | exact zB_f (by omega)) rfl
    · refine V_iload_n C d_md_arePair_16 1 rfl ?_
      refine V_iload_n C d_md_arePair_17 2 rfl ?_
      refine V_cmpeq C 25 d_md_arePair_18 (by decide) ⟨by omega, by omega⟩ ⟨by omega, by omega⟩ (fun h3 => ?_) (fun h3 => ?_)
      · refine V_iconst C d_md_arePair_25 ?_
        exact V_zret C hr d_md_arePair_26 (by decide) (by first | exact zB_t (by omega) | exact zB_f (by omega)) rfl
      · refine V_iconst C d_md_arePair_21 ?_
        refine V_goto C 26 d_md_arePair_22 (by decide) ?_
        exact V_zret C hr d_md_arePair_26 (by decide) (by first | exact zB_t (by omega) | exact zB_f (by omega)) rfl

set_option maxRecDepth 20000 in
set_option maxHeartbeats 4000000 in
theorem c_md_stop (l : Launch) (w : zW) (σ : Nat → Nat → Int) (k : Int) (hk : rI k) (n : Nat) (hn : σ 32 0 = (n : Int)) (hn7 : n ≤ 7) : zMi l w LL CC g_md_stop rm_md_stop [.ref (w.1 32), .int (zI (k))] σ (if n < 7 ∧ 0 ≤ k ∧ k ≤ 100000 then (n : Int) else -1) (if n < 7 ∧ 0 ≤ k ∧ k ≤ 100000 then zU (zU (zU (zU σ 33 n k) 35 n 86399) 38 n (-1)) 32 0 (n + 1) else σ) := by
  refine zMi.of g_md_stop (by decide +kernel) (Nat.le_of_ble_eq_true rfl) rfl ?_
  intro p e u m args below meth c C hr
  have C : zC p u m args meth c prog_7_method_6_code 2 "RoundPlansModel" w LL CC := C
  have hr : meth.sig.returnType = (some .int) := hr
  obtain ⟨hk1, hk2⟩ := id hk
  show V p l e rm_md_stop u m args below meth c 2 w LL CC 0 0 (MQ below (zQi w LL CC (if n < 7 ∧ 0 ≤ k ∧ k ≤ 100000 then (n : Int) else -1) (if n < 7 ∧ 0 ≤ k ∧ k ≤ 100000 then zU (zU (zU (zU σ 33 n k) 35 n 86399) 38 n (-1)) 32 0 (n + 1) else σ) u.heap.size) args u 0 0 (zA w LL.1 u.heap.size)) 0 [(0, .ref (w.1 32)), (1, .int (zI (k)))] [] σ
  refine V_aload_n C d_md_stop_0 0 rfl ?_
  refine V_geti C 32 0 (by decide) rfl rfl in_md (by decide) rfl wd_454 d_md_stop_1 ?_
  refine V_ti hn ?_
  refine V_bipush C d_md_stop_4 (by decide) ?_
  refine V_cmpeq C 21 d_md_stop_6 (by decide) ⟨by omega, by omega⟩ ⟨by omega, by omega⟩ (fun h1 => ?_) (fun h1 => ?_)
  · refine V_iconst C d_md_stop_21 ?_
    exact V_iret C hr d_md_stop_22 (by rw [if_neg (by omega)]) (by rw [if_neg (by omega)])
  · refine V_iload_n C d_md_stop_9 1 rfl ?_
    refine V_i2l C d_md_stop_10 ⟨by omega, by omega⟩ ?_
    refine V_lconst C 0 d_md_stop_11 rfl ?_
    refine V_ldc2 C (100000) d_md_stop_12 wd_544 ?_
    refine V_callSi C (c_md_isIn l w σ (k) (0) (100000) ⟨by omega, by omega⟩ ⟨by omega, by omega⟩ ⟨by omega, by omega⟩) wd_545 wd_546 wd_7 wd_547 o_md_isIn ⟨rfl, rfl, Nat.le_of_ble_eq_true rfl, Nat.le_of_ble_eq_true rfl⟩ rfl rfl (Nat.le_of_ble_eq_true rfl) d_md_stop_15 ⟨Nat.zero_le _, Nat.zero_le _⟩ ?_
    refine V_ifneB C 23 d_md_stop_18 (by decide) (fun h2 => ?_) (fun h2 => ?_)
    · refine V_aload_n C d_md_stop_23 0 rfl ?_
      refine V_getr C 32 1 33 (by decide) rfl rfl in_md (by decide) rfl wd_455 d_md_stop_24 ?_
      refine V_aload_n C d_md_stop_27 0 rfl ?_
      refine V_geti C 32 0 (by decide) rfl rfl in_md (by decide) rfl wd_454 d_md_stop_28 ?_
      refine V_ti hn ?_
      refine V_iload_n C d_md_stop_31 1 rfl ?_
      refine V_iast C 33 _ (by decide) rfl rfl (by omega) (by decide) d_md_stop_32 ?_
      refine V_aload_n C d_md_stop_33 0 rfl ?_
      refine V_getr C 32 3 35 (by decide) rfl rfl in_md (by decide) rfl wd_457 d_md_stop_34 ?_
      refine V_aload_n C d_md_stop_37 0 rfl ?_
      refine V_geti C 32 0 (by decide) rfl rfl in_md (by decide) rfl wd_454 d_md_stop_38 ?_
      refine V_ti (b := (n : Int)) hn ?_
      refine V_ldc C (86399) d_md_stop_41 wd_548 ?_
      refine V_iast C 35 _ (by decide) rfl rfl (by omega) (by decide) d_md_stop_43 ?_
      refine V_aload_n C d_md_stop_44 0 rfl ?_
      refine V_getr C 32 6 38 (by decide) rfl rfl in_md (by decide) rfl wd_460 d_md_stop_45 ?_
      refine V_aload_n C d_md_stop_48 0 rfl ?_
      refine V_geti C 32 0 (by decide) rfl rfl in_md (by decide) rfl wd_454 d_md_stop_49 ?_
      refine V_ti (b := (n : Int)) hn ?_
      refine V_iconst C d_md_stop_52 ?_
      refine V_iast C 38 _ (by decide) rfl rfl (by omega) (by decide) d_md_stop_53 ?_
      refine V_aload_n C d_md_stop_54 0 rfl ?_
      refine V_dup C d_md_stop_55 rfl ?_
      refine V_geti C 32 0 (by decide) rfl rfl in_md (by decide) rfl wd_454 d_md_stop_56 ?_
      refine V_ti (b := (n : Int)) hn ?_
      refine V_iconst C d_md_stop_59 ?_
      refine V_iadd C d_md_stop_60 ?_
      refine V_put C 32 0 (by decide) rfl rfl in_md ty_md tk_md nm_md (by decide) rfl wd_454 rfl rfl rfl rfl d_md_stop_61 ?_
      refine V_aload_n C d_md_stop_64 0 rfl ?_
      refine V_geti C 32 0 (by decide) rfl rfl in_md (by decide) rfl wd_454 d_md_stop_65 ?_
      refine V_ti (b := (n : Int) + 1) zU_self ?_
      refine V_iconst C d_md_stop_68 ?_
      refine V_isub C d_md_stop_69 ?_
      exact V_iret C hr d_md_stop_70 (by rw [if_pos (by omega)]; omega) (by rw [if_pos (by omega)])
    · refine V_iconst C d_md_stop_21 ?_
      exact V_iret C hr d_md_stop_22 (by rw [if_neg (by omega)]) (by rw [if_neg (by omega)])

set_option maxRecDepth 20000 in
set_option maxHeartbeats 4000000 in
theorem c_md_hours (l : Launch) (w : zW) (σ : Nat → Nat → Int) (k f g q : Int) (hk : rI k) (hf : rI f) (hg : rI g) (hq : rI q) (n : Nat) (hn : σ 32 0 = (n : Int)) (hn7 : n ≤ 7) : zMi l w LL CC g_md_hours rm_md_hours [.ref (w.1 32), .int (zI (k)), .int (zI (f)), .int (zI (g)), .int (zI (q))] σ (zB (0 ≤ k ∧ k < n ∧ 0 ≤ f ∧ f ≤ g ∧ g ≤ 86399 ∧ 0 ≤ q ∧ q ≤ 10000)) (if 0 ≤ k ∧ k < n ∧ 0 ≤ f ∧ f ≤ g ∧ g ≤ 86399 ∧ 0 ≤ q ∧ q ≤ 10000 then zU (zU (zU σ 34 k.toNat f) 35 k.toNat g) 36 k.toNat q else σ) := by
  refine zMi.of g_md_hours (by decide +kernel) (Nat.le_of_ble_eq_true rfl) rfl ?_
  intro p e u m args below meth c C hr
  have C : zC p u m args meth c prog_7_method_7_code 5 "RoundPlansModel" w LL CC := C
  have hr : meth.sig.returnType = (some .boolean) := hr
  obtain ⟨hk1, hk2⟩ := id hk
  obtain ⟨hf1, hf2⟩ := id hf
  obtain ⟨hg1, hg2⟩ := id hg
  obtain ⟨hq1, hq2⟩ := id hq
  show V p l e rm_md_hours u m args below meth c 5 w LL CC 0 0 (MQ below (zQi w LL CC (zB (0 ≤ k ∧ k < n ∧ 0 ≤ f ∧ f ≤ g ∧ g ≤ 86399 ∧ 0 ≤ q ∧ q ≤ 10000)) (if 0 ≤ k ∧ k < n ∧ 0 ≤ f ∧ f ≤ g ∧ g ≤ 86399 ∧ 0 ≤ q ∧ q ≤ 10000 then zU (zU (zU σ 34 k.toNat f) 35 k.toNat g) 36 k.toNat q else σ) u.heap.size) args u 0 0 (zA w LL.1 u.heap.size)) 0 [(0, .ref (w.1 32)), (1, .int (zI (k))), (2, .int (zI (f))), (3, .int (zI (g))), (4, .int (zI (q)))] [] σ
  refine V_aload_n C d_md_hours_0 0 rfl ?_
  refine V_iload_n C d_md_hours_1 1 rfl ?_
  refine V_callVi C 32 (by decide) rfl rfl (c_md_isStop l w σ k hk n hn hn7) wd_553 wd_555 ws_11 wd_7 wd_556 o_md_isStop ⟨rfl, rfl, Nat.le_of_ble_eq_true rfl, Nat.le_of_ble_eq_true rfl⟩ rfl rfl (Nat.le_of_ble_eq_true rfl) d_md_hours_2 ⟨Nat.zero_le _, Nat.zero_le _⟩ ?_
  refine V_ifeqB C 46 d_md_hours_5 (by decide) (fun h1 => ?_) (fun h1 => ?_)
  · refine V_iconst C d_md_hours_46 ?_
    exact V_zret C hr d_md_hours_47 (by decide) (zB_f (by omega)) (by rw [if_neg (by omega)])
  · refine V_iload_n C d_md_hours_8 2 rfl ?_
    refine V_i2l C d_md_hours_9 ⟨by omega, by omega⟩ ?_
    refine V_lconst C 0 d_md_hours_10 rfl ?_
    refine V_ldc2 C (86399) d_md_hours_11 wd_557 ?_
    refine V_callSi C (c_md_isIn l w σ (f) (0) (86399) ⟨by omega, by omega⟩ ⟨by omega, by omega⟩ ⟨by omega, by omega⟩) wd_545 wd_546 wd_7 wd_547 o_md_isIn ⟨rfl, rfl, Nat.le_of_ble_eq_true rfl, Nat.le_of_ble_eq_true rfl⟩ rfl rfl (Nat.le_of_ble_eq_true rfl) d_md_hours_14 ⟨Nat.zero_le _, Nat.zero_le _⟩ ?_
    refine V_ifeqB C 46 d_md_hours_17 (by decide) (fun h2 => ?_) (fun h2 => ?_)
    · refine V_iconst C d_md_hours_46 ?_
      exact V_zret C hr d_md_hours_47 (by decide) (zB_f (by omega)) (by rw [if_neg (by omega)])
    · refine V_iload_n C d_md_hours_20 3 rfl ?_
      refine V_i2l C d_md_hours_21 ⟨by omega, by omega⟩ ?_
      refine V_iload_n C d_md_hours_22 2 rfl ?_
      refine V_i2l C d_md_hours_23 ⟨by omega, by omega⟩ ?_
      refine V_ldc2 C (86399) d_md_hours_24 wd_557 ?_
      refine V_callSi C (c_md_isIn l w σ (g) (f) (86399) ⟨by omega, by omega⟩ ⟨by omega, by omega⟩ ⟨by omega, by omega⟩) wd_545 wd_546 wd_7 wd_547 o_md_isIn ⟨rfl, rfl, Nat.le_of_ble_eq_true rfl, Nat.le_of_ble_eq_true rfl⟩ rfl rfl (Nat.le_of_ble_eq_true rfl) d_md_hours_27 ⟨Nat.zero_le _, Nat.zero_le _⟩ ?_
      refine V_ifeqB C 46 d_md_hours_30 (by decide) (fun h3 => ?_) (fun h3 => ?_)
      · refine V_iconst C d_md_hours_46 ?_
        exact V_zret C hr d_md_hours_47 (by decide) (zB_f (by omega)) (by rw [if_neg (by omega)])
      · refine V_iload C d_md_hours_33 4 rfl ?_
        refine V_i2l C d_md_hours_35 ⟨by omega, by omega⟩ ?_
        refine V_lconst C 0 d_md_hours_36 rfl ?_
        refine V_ldc2 C (10000) d_md_hours_37 wd_558 ?_
        refine V_callSi C (c_md_isIn l w σ (q) (0) (10000) ⟨by omega, by omega⟩ ⟨by omega, by omega⟩ ⟨by omega, by omega⟩) wd_545 wd_546 wd_7 wd_547 o_md_isIn ⟨rfl, rfl, Nat.le_of_ble_eq_true rfl, Nat.le_of_ble_eq_true rfl⟩ rfl rfl (Nat.le_of_ble_eq_true rfl) d_md_hours_40 ⟨Nat.zero_le _, Nat.zero_le _⟩ ?_
        refine V_ifneB C 48 d_md_hours_43 (by decide) (fun h4 => ?_) (fun h4 => ?_)
        · obtain ⟨i, rfl⟩ : ∃ i : Nat, k = (i : Int) := ⟨k.toNat, by omega⟩
          refine V_aload_n C d_md_hours_48 0 rfl ?_
          refine V_getr C 32 2 34 (by decide) rfl rfl in_md (by decide) rfl wd_456 d_md_hours_49 ?_
          refine V_iload_n C d_md_hours_52 1 rfl ?_
          refine V_iload_n C d_md_hours_53 2 rfl ?_
          refine V_iast C 34 _ (by decide) rfl rfl (by omega) (by decide) d_md_hours_54 ?_
          refine V_aload_n C d_md_hours_55 0 rfl ?_
          refine V_getr C 32 3 35 (by decide) rfl rfl in_md (by decide) rfl wd_457 d_md_hours_56 ?_
          refine V_iload_n C d_md_hours_59 1 rfl ?_
          refine V_iload_n C d_md_hours_60 3 rfl ?_
          refine V_iast C 35 _ (by decide) rfl rfl (by omega) (by decide) d_md_hours_61 ?_
          refine V_aload_n C d_md_hours_62 0 rfl ?_
          refine V_getr C 32 4 36 (by decide) rfl rfl in_md (by decide) rfl wd_458 d_md_hours_63 ?_
          refine V_iload_n C d_md_hours_66 1 rfl ?_
          refine V_iload C d_md_hours_67 4 rfl ?_
          refine V_iast C 36 _ (by decide) rfl rfl (by omega) (by decide) d_md_hours_69 ?_
          refine V_iconst C d_md_hours_70 ?_
          exact V_zret C hr d_md_hours_71 (by decide) (zB_t (by omega)) (by rw [if_pos (by omega)]; rfl)
        · refine V_iconst C d_md_hours_46 ?_
          exact V_zret C hr d_md_hours_47 (by decide) (zB_f (by omega)) (by rw [if_neg (by omega)])

set_option maxRecDepth 20000 in
set_option maxHeartbeats 4000000 in
theorem c_md_penalty (l : Launch) (w : zW) (σ : Nat → Nat → Int) (k c0 : Int) (hk : rI k) (hc : rL c0) (n : Nat) (hn : σ 32 0 = (n : Int)) (hn7 : n ≤ 7) : zMi l w LL CC g_md_penalty rm_md_penalty [.ref (w.1 32), .int (zI (k)), .long (zL (c0))] σ (zB (0 ≤ k ∧ k < n ∧ 0 ≤ c0 ∧ c0 ≤ 1000000000)) (if 0 ≤ k ∧ k < n ∧ 0 ≤ c0 ∧ c0 ≤ 1000000000 then zU σ 37 k.toNat c0 else σ) := by
  refine zMi.of g_md_penalty (by decide +kernel) (Nat.le_of_ble_eq_true rfl) rfl ?_
  intro p e u m args below meth c C hr
  have C : zC p u m args meth c prog_7_method_8_code 4 "RoundPlansModel" w LL CC := C
  have hr : meth.sig.returnType = (some .boolean) := hr
  obtain ⟨hk1, hk2⟩ := id hk
  obtain ⟨hc1, hc2⟩ := id hc
  show V p l e rm_md_penalty u m args below meth c 4 w LL CC 0 0 (MQ below (zQi w LL CC (zB (0 ≤ k ∧ k < n ∧ 0 ≤ c0 ∧ c0 ≤ 1000000000)) (if 0 ≤ k ∧ k < n ∧ 0 ≤ c0 ∧ c0 ≤ 1000000000 then zU σ 37 k.toNat c0 else σ) u.heap.size) args u 0 0 (zA w LL.1 u.heap.size)) 0 [(0, .ref (w.1 32)), (1, .int (zI (k))), (2, .long (zL (c0)))] [] σ
  refine V_aload_n C d_md_penalty_0 0 rfl ?_
  refine V_iload_n C d_md_penalty_1 1 rfl ?_
  refine V_callVi C 32 (by decide) rfl rfl (c_md_isStop l w σ k hk n hn hn7) wd_553 wd_555 ws_11 wd_7 wd_556 o_md_isStop ⟨rfl, rfl, Nat.le_of_ble_eq_true rfl, Nat.le_of_ble_eq_true rfl⟩ rfl rfl (Nat.le_of_ble_eq_true rfl) d_md_penalty_2 ⟨Nat.zero_le _, Nat.zero_le _⟩ ?_
  refine V_ifeqB C 19 d_md_penalty_5 (by decide) (fun h1 => ?_) (fun h1 => ?_)
  · refine V_iconst C d_md_penalty_19 ?_
    exact V_zret C hr d_md_penalty_20 (by decide) (zB_f (by omega)) (by rw [if_neg (by omega)])
  · refine V_lload_n C d_md_penalty_8 2 rfl ?_
    refine V_lconst C 0 d_md_penalty_9 rfl ?_
    refine V_ldc2 C (1000000000) d_md_penalty_10 wd_563 ?_
    refine V_callSi C (c_md_isIn l w σ (c0) (0) (1000000000) ⟨by omega, by omega⟩ ⟨by omega, by omega⟩ ⟨by omega, by omega⟩) wd_545 wd_546 wd_7 wd_547 o_md_isIn ⟨rfl, rfl, Nat.le_of_ble_eq_true rfl, Nat.le_of_ble_eq_true rfl⟩ rfl rfl (Nat.le_of_ble_eq_true rfl) d_md_penalty_13 ⟨Nat.zero_le _, Nat.zero_le _⟩ ?_
    refine V_ifneB C 21 d_md_penalty_16 (by decide) (fun h2 => ?_) (fun h2 => ?_)
    · obtain ⟨i, rfl⟩ : ∃ i : Nat, k = (i : Int) := ⟨k.toNat, by omega⟩
      refine V_aload_n C d_md_penalty_21 0 rfl ?_
      refine V_getr C 32 5 37 (by decide) rfl rfl in_md (by decide) rfl wd_459 d_md_penalty_22 ?_
      refine V_iload_n C d_md_penalty_25 1 rfl ?_
      refine V_lload_n C d_md_penalty_26 2 rfl ?_
      refine V_last C 37 _ (by decide) rfl rfl (by omega) (by decide) d_md_penalty_27 ?_
      refine V_iconst C d_md_penalty_28 ?_
      exact V_zret C hr d_md_penalty_29 (by decide) (zB_t (by omega)) (by rw [if_pos (by omega)]; rfl)
    · refine V_iconst C d_md_penalty_19 ?_
      exact V_zret C hr d_md_penalty_20 (by decide) (zB_f (by omega)) (by rw [if_neg (by omega)])

set_option maxRecDepth 20000 in
set_option maxHeartbeats 4000000 in
theorem c_md_vehicle (l : Launch) (w : zW) (σ : Nat → Nat → Int) (a b d r : Int) (ha : rI a) (hb : rI b) (hd : rI d) (hq : rI r) (nv : Nat) (hv : σ 32 9 = (nv : Int)) (hv3 : nv ≤ 3) : zMi l w LL CC g_md_vehicle rm_md_vehicle [.ref (w.1 32), .int (zI (a)), .int (zI (b)), .int (zI (d)), .int (zI (r))] σ (if nv < 3 ∧ 0 ≤ a ∧ a ≤ 1000000 ∧ 0 ≤ b ∧ b ≤ d ∧ d ≤ 86399 ∧ 0 ≤ r ∧ r ≤ 1000 then (nv : Int) else -1) (if nv < 3 ∧ 0 ≤ a ∧ a ≤ 1000000 ∧ 0 ≤ b ∧ b ≤ d ∧ d ≤ 86399 ∧ 0 ≤ r ∧ r ≤ 1000 then zU (zU (zU (zU (zU σ 41 nv a) 42 nv b) 43 nv d) 44 nv r) 32 9 (nv + 1) else σ) := by
  refine zMi.of g_md_vehicle (by decide +kernel) (Nat.le_of_ble_eq_true rfl) rfl ?_
  intro p e u m args below meth c C hr
  have C : zC p u m args meth c prog_7_method_9_code 5 "RoundPlansModel" w LL CC := C
  have hr : meth.sig.returnType = (some .int) := hr
  obtain ⟨ha1, ha2⟩ := id ha
  obtain ⟨hb1, hb2⟩ := id hb
  obtain ⟨hd1, hd2⟩ := id hd
  obtain ⟨hq1, hq2⟩ := id hq
  show V p l e rm_md_vehicle u m args below meth c 5 w LL CC 0 0 (MQ below (zQi w LL CC (if nv < 3 ∧ 0 ≤ a ∧ a ≤ 1000000 ∧ 0 ≤ b ∧ b ≤ d ∧ d ≤ 86399 ∧ 0 ≤ r ∧ r ≤ 1000 then (nv : Int) else -1) (if nv < 3 ∧ 0 ≤ a ∧ a ≤ 1000000 ∧ 0 ≤ b ∧ b ≤ d ∧ d ≤ 86399 ∧ 0 ≤ r ∧ r ≤ 1000 then zU (zU (zU (zU (zU σ 41 nv a) 42 nv b) 43 nv d) 44 nv r) 32 9 (nv + 1) else σ) u.heap.size) args u 0 0 (zA w LL.1 u.heap.size)) 0 [(0, .ref (w.1 32)), (1, .int (zI (a))), (2, .int (zI (b))), (3, .int (zI (d))), (4, .int (zI (r)))] [] σ
  refine V_aload_n C d_md_vehicle_0 0 rfl ?_
  refine V_geti C 32 9 (by decide) rfl rfl in_md (by decide) rfl wd_463 d_md_vehicle_1 ?_
  refine V_ti hv ?_
  refine V_iconst C d_md_vehicle_4 ?_
  refine V_cmpeq C 58 d_md_vehicle_5 (by decide) ⟨by omega, by omega⟩ ⟨by omega, by omega⟩ (fun h1 => ?_) (fun h1 => ?_)
  · refine V_iconst C d_md_vehicle_58 ?_
    exact V_iret C hr d_md_vehicle_59 (by rw [if_neg (by omega)]) (by rw [if_neg (by omega)])
  · refine V_iload_n C d_md_vehicle_8 1 rfl ?_
    refine V_i2l C d_md_vehicle_9 ⟨by omega, by omega⟩ ?_
    refine V_lconst C 0 d_md_vehicle_10 rfl ?_
    refine V_ldc2 C (1000000) d_md_vehicle_11 wd_568 ?_
    refine V_callSi C (c_md_isIn l w σ (a) (0) (1000000) ⟨by omega, by omega⟩ ⟨by omega, by omega⟩ ⟨by omega, by omega⟩) wd_545 wd_546 wd_7 wd_547 o_md_isIn ⟨rfl, rfl, Nat.le_of_ble_eq_true rfl, Nat.le_of_ble_eq_true rfl⟩ rfl rfl (Nat.le_of_ble_eq_true rfl) d_md_vehicle_14 ⟨Nat.zero_le _, Nat.zero_le _⟩ ?_
    refine V_ifeqB C 58 d_md_vehicle_17 (by decide) (fun h2 => ?_) (fun h2 => ?_)
    · refine V_iconst C d_md_vehicle_58 ?_
      exact V_iret C hr d_md_vehicle_59 (by rw [if_neg (by omega)]) (by rw [if_neg (by omega)])
    · refine V_iload_n C d_md_vehicle_20 2 rfl ?_
      refine V_i2l C d_md_vehicle_21 ⟨by omega, by omega⟩ ?_
      refine V_lconst C 0 d_md_vehicle_22 rfl ?_
      refine V_ldc2 C (86399) d_md_vehicle_23 wd_557 ?_
      refine V_callSi C (c_md_isIn l w σ (b) (0) (86399) ⟨by omega, by omega⟩ ⟨by omega, by omega⟩ ⟨by omega, by omega⟩) wd_545 wd_546 wd_7 wd_547 o_md_isIn ⟨rfl, rfl, Nat.le_of_ble_eq_true rfl, Nat.le_of_ble_eq_true rfl⟩ rfl rfl (Nat.le_of_ble_eq_true rfl) d_md_vehicle_26 ⟨Nat.zero_le _, Nat.zero_le _⟩ ?_
      refine V_ifeqB C 58 d_md_vehicle_29 (by decide) (fun h3 => ?_) (fun h3 => ?_)
      · refine V_iconst C d_md_vehicle_58 ?_
        exact V_iret C hr d_md_vehicle_59 (by rw [if_neg (by omega)]) (by rw [if_neg (by omega)])
      · refine V_iload_n C d_md_vehicle_32 3 rfl ?_
        refine V_i2l C d_md_vehicle_33 ⟨by omega, by omega⟩ ?_
        refine V_iload_n C d_md_vehicle_34 2 rfl ?_
        refine V_i2l C d_md_vehicle_35 ⟨by omega, by omega⟩ ?_
        refine V_ldc2 C (86399) d_md_vehicle_36 wd_557 ?_
        refine V_callSi C (c_md_isIn l w σ (d) (b) (86399) ⟨by omega, by omega⟩ ⟨by omega, by omega⟩ ⟨by omega, by omega⟩) wd_545 wd_546 wd_7 wd_547 o_md_isIn ⟨rfl, rfl, Nat.le_of_ble_eq_true rfl, Nat.le_of_ble_eq_true rfl⟩ rfl rfl (Nat.le_of_ble_eq_true rfl) d_md_vehicle_39 ⟨Nat.zero_le _, Nat.zero_le _⟩ ?_
        refine V_ifeqB C 58 d_md_vehicle_42 (by decide) (fun h4 => ?_) (fun h4 => ?_)
        · refine V_iconst C d_md_vehicle_58 ?_
          exact V_iret C hr d_md_vehicle_59 (by rw [if_neg (by omega)]) (by rw [if_neg (by omega)])
        · refine V_iload C d_md_vehicle_45 4 rfl ?_
          refine V_i2l C d_md_vehicle_47 ⟨by omega, by omega⟩ ?_
          refine V_lconst C 0 d_md_vehicle_48 rfl ?_
          refine V_ldc2 C (1000) d_md_vehicle_49 wd_569 ?_
          refine V_callSi C (c_md_isIn l w σ (r) (0) (1000) ⟨by omega, by omega⟩ ⟨by omega, by omega⟩ ⟨by omega, by omega⟩) wd_545 wd_546 wd_7 wd_547 o_md_isIn ⟨rfl, rfl, Nat.le_of_ble_eq_true rfl, Nat.le_of_ble_eq_true rfl⟩ rfl rfl (Nat.le_of_ble_eq_true rfl) d_md_vehicle_52 ⟨Nat.zero_le _, Nat.zero_le _⟩ ?_
          refine V_ifneB C 60 d_md_vehicle_55 (by decide) (fun h5 => ?_) (fun h5 => ?_)
          · refine V_aload_n C d_md_vehicle_60 0 rfl ?_
            refine V_getr C 32 10 41 (by decide) rfl rfl in_md (by decide) rfl wd_464 d_md_vehicle_61 ?_
            refine V_aload_n C d_md_vehicle_64 0 rfl ?_
            refine V_geti C 32 9 (by decide) rfl rfl in_md (by decide) rfl wd_463 d_md_vehicle_65 ?_
            refine V_ti (b := (nv : Int)) hv ?_
            refine V_iload_n C d_md_vehicle_68 1 rfl ?_
            refine V_iast C 41 _ (by decide) rfl rfl (by omega) (by decide) d_md_vehicle_69 ?_
            refine V_aload_n C d_md_vehicle_70 0 rfl ?_
            refine V_getr C 32 11 42 (by decide) rfl rfl in_md (by decide) rfl wd_465 d_md_vehicle_71 ?_
            refine V_aload_n C d_md_vehicle_74 0 rfl ?_
            refine V_geti C 32 9 (by decide) rfl rfl in_md (by decide) rfl wd_463 d_md_vehicle_75 ?_
            refine V_ti (b := (nv : Int)) hv ?_
            refine V_iload_n C d_md_vehicle_78 2 rfl ?_
            refine V_iast C 42 _ (by decide) rfl rfl (by omega) (by decide) d_md_vehicle_79 ?_
            refine V_aload_n C d_md_vehicle_80 0 rfl ?_
            refine V_getr C 32 12 43 (by decide) rfl rfl in_md (by decide) rfl wd_466 d_md_vehicle_81 ?_
            refine V_aload_n C d_md_vehicle_84 0 rfl ?_
            refine V_geti C 32 9 (by decide) rfl rfl in_md (by decide) rfl wd_463 d_md_vehicle_85 ?_
            refine V_ti (b := (nv : Int)) hv ?_
            refine V_iload_n C d_md_vehicle_88 3 rfl ?_
            refine V_iast C 43 _ (by decide) rfl rfl (by omega) (by decide) d_md_vehicle_89 ?_
            refine V_aload_n C d_md_vehicle_90 0 rfl ?_
            refine V_getr C 32 13 44 (by decide) rfl rfl in_md (by decide) rfl wd_467 d_md_vehicle_91 ?_
            refine V_aload_n C d_md_vehicle_94 0 rfl ?_
            refine V_geti C 32 9 (by decide) rfl rfl in_md (by decide) rfl wd_463 d_md_vehicle_95 ?_
            refine V_ti (b := (nv : Int)) hv ?_
            refine V_iload C d_md_vehicle_98 4 rfl ?_
            refine V_iast C 44 _ (by decide) rfl rfl (by omega) (by decide) d_md_vehicle_100 ?_
            refine V_aload_n C d_md_vehicle_101 0 rfl ?_
            refine V_dup C d_md_vehicle_102 rfl ?_
            refine V_geti C 32 9 (by decide) rfl rfl in_md (by decide) rfl wd_463 d_md_vehicle_103 ?_
            refine V_ti (b := (nv : Int)) hv ?_
            refine V_iconst C d_md_vehicle_106 ?_
            refine V_iadd C d_md_vehicle_107 ?_
            refine V_put C 32 9 (by decide) rfl rfl in_md ty_md tk_md nm_md (by decide) rfl wd_463 rfl rfl rfl rfl d_md_vehicle_108 ?_
            refine V_aload_n C d_md_vehicle_111 0 rfl ?_
            refine V_geti C 32 9 (by decide) rfl rfl in_md (by decide) rfl wd_463 d_md_vehicle_112 ?_
            refine V_ti (b := (nv : Int) + 1) zU_self ?_
            refine V_iconst C d_md_vehicle_115 ?_
            refine V_isub C d_md_vehicle_116 ?_
            exact V_iret C hr d_md_vehicle_117 (by rw [if_pos (by omega)]; omega) (by rw [if_pos (by omega)])
          · refine V_iconst C d_md_vehicle_58 ?_
            exact V_iret C hr d_md_vehicle_59 (by rw [if_neg (by omega)]) (by rw [if_neg (by omega)])

set_option maxRecDepth 20000 in
set_option maxHeartbeats 4000000 in
theorem c_md_way (l : Launch) (w : zW) (σ : Nat → Nat → Int) (a b q : Int) (ha : rI a) (hb : rI b) (hq : rI q) : zMi l w LL CC g_md_way rm_md_way [.ref (w.1 32), .int (zI (a)), .int (zI (b)), .int (zI (q))] σ (zB (0 ≤ a ∧ a ≤ 7 ∧ 0 ≤ b ∧ b ≤ 7 ∧ a ≠ b ∧ 0 ≤ q ∧ q ≤ 50000)) (if 0 ≤ a ∧ a ≤ 7 ∧ 0 ≤ b ∧ b ≤ 7 ∧ a ≠ b ∧ 0 ≤ q ∧ q ≤ 50000 then zU σ 45 (8 * a.toNat + b.toNat) q else σ) := by
  refine zMi.of g_md_way (by decide +kernel) (Nat.le_of_ble_eq_true rfl) rfl ?_
  intro p e u m args below meth c C hr
  have C : zC p u m args meth c prog_7_method_10_code 4 "RoundPlansModel" w LL CC := C
  have hr : meth.sig.returnType = (some .boolean) := hr
  obtain ⟨ha1, ha2⟩ := id ha
  obtain ⟨hb1, hb2⟩ := id hb
  obtain ⟨hq1, hq2⟩ := id hq
  show V p l e rm_md_way u m args below meth c 4 w LL CC 0 0 (MQ below (zQi w LL CC (zB (0 ≤ a ∧ a ≤ 7 ∧ 0 ≤ b ∧ b ≤ 7 ∧ a ≠ b ∧ 0 ≤ q ∧ q ≤ 50000)) (if 0 ≤ a ∧ a ≤ 7 ∧ 0 ≤ b ∧ b ≤ 7 ∧ a ≠ b ∧ 0 ≤ q ∧ q ≤ 50000 then zU σ 45 (8 * a.toNat + b.toNat) q else σ) u.heap.size) args u 0 0 (zA w LL.1 u.heap.size)) 0 [(0, .ref (w.1 32)), (1, .int (zI (a))), (2, .int (zI (b))), (3, .int (zI (q)))] [] σ
  refine V_iload_n C d_md_way_0 1 rfl ?_
  refine V_i2l C d_md_way_1 ⟨by omega, by omega⟩ ?_
  refine V_lconst C 0 d_md_way_2 rfl ?_
  refine V_ldc2 C (7) d_md_way_3 wd_574 ?_
  refine V_callSi C (c_md_isIn l w σ (a) (0) (7) ⟨by omega, by omega⟩ ⟨by omega, by omega⟩ ⟨by omega, by omega⟩) wd_545 wd_546 wd_7 wd_547 o_md_isIn ⟨rfl, rfl, Nat.le_of_ble_eq_true rfl, Nat.le_of_ble_eq_true rfl⟩ rfl rfl (Nat.le_of_ble_eq_true rfl) d_md_way_6 ⟨Nat.zero_le _, Nat.zero_le _⟩ ?_
  refine V_ifeqB C 41 d_md_way_9 (by decide) (fun h1 => ?_) (fun h1 => ?_)
  · refine V_iconst C d_md_way_41 ?_
    exact V_zret C hr d_md_way_42 (by decide) (zB_f (by omega)) (by rw [if_neg (by omega)])
  · refine V_iload_n C d_md_way_12 2 rfl ?_
    refine V_i2l C d_md_way_13 ⟨by omega, by omega⟩ ?_
    refine V_lconst C 0 d_md_way_14 rfl ?_
    refine V_ldc2 C (7) d_md_way_15 wd_574 ?_
    refine V_callSi C (c_md_isIn l w σ (b) (0) (7) ⟨by omega, by omega⟩ ⟨by omega, by omega⟩ ⟨by omega, by omega⟩) wd_545 wd_546 wd_7 wd_547 o_md_isIn ⟨rfl, rfl, Nat.le_of_ble_eq_true rfl, Nat.le_of_ble_eq_true rfl⟩ rfl rfl (Nat.le_of_ble_eq_true rfl) d_md_way_18 ⟨Nat.zero_le _, Nat.zero_le _⟩ ?_
    refine V_ifeqB C 41 d_md_way_21 (by decide) (fun h2 => ?_) (fun h2 => ?_)
    · refine V_iconst C d_md_way_41 ?_
      exact V_zret C hr d_md_way_42 (by decide) (zB_f (by omega)) (by rw [if_neg (by omega)])
    · refine V_iload_n C d_md_way_24 1 rfl ?_
      refine V_iload_n C d_md_way_25 2 rfl ?_
      refine V_cmpeq C 41 d_md_way_26 (by decide) ⟨by omega, by omega⟩ ⟨by omega, by omega⟩ (fun h3 => ?_) (fun h3 => ?_)
      · refine V_iconst C d_md_way_41 ?_
        exact V_zret C hr d_md_way_42 (by decide) (zB_f (by omega)) (by rw [if_neg (by omega)])
      · refine V_iload_n C d_md_way_29 3 rfl ?_
        refine V_i2l C d_md_way_30 ⟨by omega, by omega⟩ ?_
        refine V_lconst C 0 d_md_way_31 rfl ?_
        refine V_ldc2 C (50000) d_md_way_32 wd_575 ?_
        refine V_callSi C (c_md_isIn l w σ (q) (0) (50000) ⟨by omega, by omega⟩ ⟨by omega, by omega⟩ ⟨by omega, by omega⟩) wd_545 wd_546 wd_7 wd_547 o_md_isIn ⟨rfl, rfl, Nat.le_of_ble_eq_true rfl, Nat.le_of_ble_eq_true rfl⟩ rfl rfl (Nat.le_of_ble_eq_true rfl) d_md_way_35 ⟨Nat.zero_le _, Nat.zero_le _⟩ ?_
        refine V_ifneB C 43 d_md_way_38 (by decide) (fun h4 => ?_) (fun h4 => ?_)
        · obtain ⟨i, rfl⟩ : ∃ i : Nat, a = (i : Int) := ⟨a.toNat, by omega⟩
          obtain ⟨j, rfl⟩ : ∃ j : Nat, b = (j : Int) := ⟨b.toNat, by omega⟩
          refine V_aload_n C d_md_way_43 0 rfl ?_
          refine V_getr C 32 14 45 (by decide) rfl rfl in_md (by decide) rfl wd_468 d_md_way_44 ?_
          refine V_bipush C d_md_way_47 (by decide) ?_
          refine V_iload_n C d_md_way_49 1 rfl ?_
          refine V_imul C d_md_way_50 ?_
          refine V_iload_n C d_md_way_51 2 rfl ?_
          refine V_iadd C d_md_way_52 ?_
          refine V_iload_n C d_md_way_53 3 rfl ?_
          refine V_iast C 45 (8 * i + j) (by decide) rfl (by omega) (by omega) (by decide) d_md_way_54 ?_
          refine V_iconst C d_md_way_55 ?_
          exact V_zret C hr d_md_way_56 (by decide) (zB_t (by omega)) (by rw [if_pos (by omega)]; rfl)
        · refine V_iconst C d_md_way_41 ?_
          exact V_zret C hr d_md_way_42 (by decide) (zB_f (by omega)) (by rw [if_neg (by omega)])

set_option maxRecDepth 20000 in
set_option maxHeartbeats 4000000 in
theorem c_md_fixed (l : Launch) (w : zW) (σ : Nat → Nat → Int) (k v : Int) (hk : rI k) (hq : rI v) (n : Nat) (hn : σ 32 0 = (n : Int)) (hn7 : n ≤ 7) (nv : Nat) (hv : σ 32 9 = (nv : Int)) (hv3 : nv ≤ 3) : zMi l w LL CC g_md_fixed rm_md_fixed [.ref (w.1 32), .int (zI (k)), .int (zI (v))] σ (zB (0 ≤ k ∧ k < n ∧ -1 ≤ v ∧ v < nv)) (if 0 ≤ k ∧ k < n ∧ -1 ≤ v ∧ v < nv then zU σ 38 k.toNat v else σ) := by
  refine zMi.of g_md_fixed (by decide +kernel) (Nat.le_of_ble_eq_true rfl) rfl ?_
  intro p e u m args below meth c C hr
  have C : zC p u m args meth c prog_7_method_11_code 3 "RoundPlansModel" w LL CC := C
  have hr : meth.sig.returnType = (some .boolean) := hr
  obtain ⟨hk1, hk2⟩ := id hk
  obtain ⟨hq1, hq2⟩ := id hq
  show V p l e rm_md_fixed u m args below meth c 3 w LL CC 0 0 (MQ below (zQi w LL CC (zB (0 ≤ k ∧ k < n ∧ -1 ≤ v ∧ v < nv)) (if 0 ≤ k ∧ k < n ∧ -1 ≤ v ∧ v < nv then zU σ 38 k.toNat v else σ) u.heap.size) args u 0 0 (zA w LL.1 u.heap.size)) 0 [(0, .ref (w.1 32)), (1, .int (zI (k))), (2, .int (zI (v)))] [] σ
  refine V_aload_n C d_md_fixed_0 0 rfl ?_
  refine V_iload_n C d_md_fixed_1 1 rfl ?_
  refine V_callVi C 32 (by decide) rfl rfl (c_md_isStop l w σ k hk n hn hn7) wd_553 wd_555 ws_11 wd_7 wd_556 o_md_isStop ⟨rfl, rfl, Nat.le_of_ble_eq_true rfl, Nat.le_of_ble_eq_true rfl⟩ rfl rfl (Nat.le_of_ble_eq_true rfl) d_md_fixed_2 ⟨Nat.zero_le _, Nat.zero_le _⟩ ?_
  refine V_ifeqB C 21 d_md_fixed_5 (by decide) (fun h1 => ?_) (fun h1 => ?_)
  · refine V_iconst C d_md_fixed_21 ?_
    exact V_zret C hr d_md_fixed_22 (by decide) (zB_f (by omega)) (by rw [if_neg (by omega)])
  · refine V_iload_n C d_md_fixed_8 2 rfl ?_
    refine V_iconst C d_md_fixed_9 ?_
    refine V_cmplt C 21 d_md_fixed_10 (by decide) ⟨by omega, by omega⟩ ⟨by omega, by omega⟩ (fun h2 => ?_) (fun h2 => ?_)
    · refine V_iconst C d_md_fixed_21 ?_
      exact V_zret C hr d_md_fixed_22 (by decide) (zB_f (by omega)) (by rw [if_neg (by omega)])
    · refine V_iload_n C d_md_fixed_13 2 rfl ?_
      refine V_aload_n C d_md_fixed_14 0 rfl ?_
      refine V_geti C 32 9 (by decide) rfl rfl in_md (by decide) rfl wd_463 d_md_fixed_15 ?_
      refine V_ti hv ?_
      refine V_cmplt C 23 d_md_fixed_18 (by decide) ⟨by omega, by omega⟩ ⟨by omega, by omega⟩ (fun h3 => ?_) (fun h3 => ?_)
      · obtain ⟨i, rfl⟩ : ∃ i : Nat, k = (i : Int) := ⟨k.toNat, by omega⟩
        refine V_aload_n C d_md_fixed_23 0 rfl ?_
        refine V_getr C 32 6 38 (by decide) rfl rfl in_md (by decide) rfl wd_460 d_md_fixed_24 ?_
        refine V_iload_n C d_md_fixed_27 1 rfl ?_
        refine V_iload_n C d_md_fixed_28 2 rfl ?_
        refine V_iast C 38 _ (by decide) rfl rfl (by omega) (by decide) d_md_fixed_29 ?_
        refine V_iconst C d_md_fixed_30 ?_
        exact V_zret C hr d_md_fixed_31 (by decide) (zB_t (by omega)) (by rw [if_pos (by omega)]; rfl)
      · refine V_iconst C d_md_fixed_21 ?_
        exact V_zret C hr d_md_fixed_22 (by decide) (zB_f (by omega)) (by rw [if_neg (by omega)])

set_option maxRecDepth 20000 in
set_option maxHeartbeats 4000000 in
theorem c_md_apart (l : Launch) (w : zW) (σ : Nat → Nat → Int) (a b t : Int) (ha : rI a) (hb : rI b) (ht : t = 0 ∨ t = 1) (n : Nat) (hn : σ 32 0 = (n : Int)) (hn7 : n ≤ 7) : zMi l w LL CC g_md_apart rm_md_apart [.ref (w.1 32), .int (zI (a)), .int (zI (b)), .int (zI (t))] σ (zB (0 ≤ a ∧ a < n ∧ 0 ≤ b ∧ b < n ∧ a ≠ b)) (if 0 ≤ a ∧ a < n ∧ 0 ≤ b ∧ b < n ∧ a ≠ b then zU (zU σ 39 (7 * a.toNat + b.toNat) t) 39 (7 * b.toNat + a.toNat) t else σ) := by
  refine zMi.of g_md_apart (by decide +kernel) (Nat.le_of_ble_eq_true rfl) rfl ?_
  intro p e u m args below meth c C hr
  have C : zC p u m args meth c prog_7_method_12_code 4 "RoundPlansModel" w LL CC := C
  have hr : meth.sig.returnType = (some .boolean) := hr
  obtain ⟨ha1, ha2⟩ := id ha
  obtain ⟨hb1, hb2⟩ := id hb
  show V p l e rm_md_apart u m args below meth c 4 w LL CC 0 0 (MQ below (zQi w LL CC (zB (0 ≤ a ∧ a < n ∧ 0 ≤ b ∧ b < n ∧ a ≠ b)) (if 0 ≤ a ∧ a < n ∧ 0 ≤ b ∧ b < n ∧ a ≠ b then zU (zU σ 39 (7 * a.toNat + b.toNat) t) 39 (7 * b.toNat + a.toNat) t else σ) u.heap.size) args u 0 0 (zA w LL.1 u.heap.size)) 0 [(0, .ref (w.1 32)), (1, .int (zI (a))), (2, .int (zI (b))), (3, .int (zI (t)))] [] σ
  refine V_aload_n C d_md_apart_0 0 rfl ?_
  refine V_iload_n C d_md_apart_1 1 rfl ?_
  refine V_iload_n C d_md_apart_2 2 rfl ?_
  refine V_callVi C 32 (by decide) rfl rfl (c_md_arePair l w σ a b ha hb n hn hn7) wd_584 wd_586 ws_12 wd_7 wd_587 o_md_arePair ⟨rfl, rfl, Nat.le_of_ble_eq_true rfl, Nat.le_of_ble_eq_true rfl⟩ rfl rfl (Nat.le_of_ble_eq_true rfl) d_md_apart_3 ⟨Nat.zero_le _, Nat.zero_le _⟩ ?_
  refine V_ifneB C 11 d_md_apart_6 (by decide) (fun h1 => ?_) (fun h1 => ?_)
  · obtain ⟨i, rfl⟩ : ∃ i : Nat, a = (i : Int) := ⟨a.toNat, by omega⟩
    obtain ⟨j, rfl⟩ : ∃ j : Nat, b = (j : Int) := ⟨b.toNat, by omega⟩
    refine V_aload_n C d_md_apart_11 0 rfl ?_
    refine V_getr C 32 7 39 (by decide) rfl rfl in_md (by decide) rfl wd_461 d_md_apart_12 ?_
    refine V_bipush C d_md_apart_15 (by decide) ?_
    refine V_iload_n C d_md_apart_17 1 rfl ?_
    refine V_imul C d_md_apart_18 ?_
    refine V_iload_n C d_md_apart_19 2 rfl ?_
    refine V_iadd C d_md_apart_20 ?_
    refine V_iload_n C d_md_apart_21 3 rfl ?_
    refine V_zast C 39 (7 * i + j) (by decide) rfl (by omega) ht (by omega) (by decide) d_md_apart_22 ?_
    refine V_aload_n C d_md_apart_23 0 rfl ?_
    refine V_getr C 32 7 39 (by decide) rfl rfl in_md (by decide) rfl wd_461 d_md_apart_24 ?_
    refine V_bipush C d_md_apart_27 (by decide) ?_
    refine V_iload_n C d_md_apart_29 2 rfl ?_
    refine V_imul C d_md_apart_30 ?_
    refine V_iload_n C d_md_apart_31 1 rfl ?_
    refine V_iadd C d_md_apart_32 ?_
    refine V_iload_n C d_md_apart_33 3 rfl ?_
    refine V_zast C 39 (7 * j + i) (by decide) rfl (by omega) ht (by omega) (by decide) d_md_apart_34 ?_
    refine V_iconst C d_md_apart_35 ?_
    exact V_zret C hr d_md_apart_36 (by decide) (zB_t (by omega)) (by rw [if_pos (by omega)]; rfl)
  · refine V_iconst C d_md_apart_9 ?_
    exact V_zret C hr d_md_apart_10 (by decide) (zB_f (by omega)) (by rw [if_neg (by omega)])

set_option maxRecDepth 20000 in
set_option maxHeartbeats 4000000 in
theorem c_md_leads (l : Launch) (w : zW) (σ : Nat → Nat → Int) (a b : Nat) (ha : a < 7) (hb : b < 7) (h40 : bd σ 40 49 0 1) (n : Nat) (hn : σ 32 0 = (n : Int)) (hn7 : n ≤ 7) : zMi l w LL CC g_md_leads rm_md_leads [.ref (w.1 32), .int (zI ((a : Int))), .int (zI ((b : Int)))] σ (zB ((ldT σ n (2 ^ a) n).testBit b = true)) (σ) := by
  refine zMi.of g_md_leads (by decide +kernel) (Nat.le_of_ble_eq_true rfl) rfl ?_
  intro p e u m args below meth c C hr
  have C : zC p u m args meth c prog_7_method_13_code 7 "RoundPlansModel" w LL CC := C
  have hr : meth.sig.returnType = (some .boolean) := hr
  have h2a : 2 ^ a < 128 := Nat.lt_of_lt_of_le (Nat.pow_lt_pow_right (by decide) ha) (by decide)
  show V p l e rm_md_leads u m args below meth c 7 w LL CC 0 0 (MQ below (zQi w LL CC (zB ((ldT σ n (2 ^ a) n).testBit b = true)) (σ) u.heap.size) args u 0 0 (zA w LL.1 u.heap.size)) 0 [(0, .ref (w.1 32)), (1, .int (zI ((a : Int)))), (2, .int (zI ((b : Int))))] [] σ
  refine V_iconst C d_md_leads_0 ?_
  refine V_iload_n C d_md_leads_1 1 rfl ?_
  refine V_ishl C (((2 ^ a : Nat) : Int)) d_md_leads_2 (zI_shl1 (by omega)) ?_
  refine V_istore_n (lv' := [(3, _), (0, _), (1, _), (2, _)]) C d_md_leads_3 (by decide) rfl ?_
  refine V_iconst C d_md_leads_4 ?_
  refine V_istore (lv' := [(4, _), (3, _), (0, _), (1, _), (2, _)]) C d_md_leads_5 (by decide) rfl ?_
  refine V_sub (lv' := [(4, _), (3, _), (0, _), (1, _), (2, _)]) [0, 1, 2, 3, 4] rfl ?_
  refine loopUp (n := n) (P := fun t => V p l e rm_md_leads u m args below meth c 7 w LL CC 0 0 (MQ below (zQi w LL CC (zB ((ldT σ n (2 ^ a) n).testBit b = true)) (σ) u.heap.size) args u 0 0 (zA w LL.1 u.heap.size)) 7 [(4, .int (zI ((t : Int)))), (3, .int (zI (((ldT σ n (2 ^ a) t : Nat) : Int)))), (0, .ref (w.1 32)), (1, .int (zI ((a : Int)))), (2, .int (zI ((b : Int))))] [] (σ)) (fun t hit iht => ?_) 0 (Nat.zero_le _)
  show V p l e rm_md_leads u m args below meth c 7 w LL CC 0 0 (MQ below (zQi w LL CC (zB ((ldT σ n (2 ^ a) n).testBit b = true)) (σ) u.heap.size) args u 0 0 (zA w LL.1 u.heap.size)) 7 [(4, .int (zI ((t : Int)))), (3, .int (zI (((ldT σ n (2 ^ a) t : Nat) : Int)))), (0, .ref (w.1 32)), (1, .int (zI ((a : Int)))), (2, .int (zI ((b : Int))))] [] (σ)
  refine V_iload C d_md_leads_7 0 rfl ?_
  refine V_aload_n C d_md_leads_9 2 rfl ?_
  refine V_geti C 32 0 (by decide) rfl rfl in_md (by decide) rfl wd_454 d_md_leads_10 ?_
  refine V_ti hn ?_
  refine V_cmpge C 95 d_md_leads_13 (by decide) ⟨by omega, by omega⟩ ⟨by omega, by omega⟩ (fun he => ?_) (fun he => ?_)
  · have hit : t = n := by omega
    subst hit
    have hT := ldT_128 (σ := σ) (n := t) hn7 h2a t
    refine V_iload_n C d_md_leads_95 1 rfl ?_
    refine V_iload_n C d_md_leads_96 4 rfl ?_
    refine V_ishr C (((ldT σ t (2 ^ a) t / 2 ^ b : Nat) : Int)) d_md_leads_97 (zI_shr (by omega) (by omega)) ?_
    refine V_iconst C d_md_leads_98 ?_
    refine V_iand C (((ldT σ t (2 ^ a) t / 2 ^ b &&& 1 : Nat) : Int)) d_md_leads_99 (zI_and _ 1) ?_
    have hle : ldT σ t (2 ^ a) t / 2 ^ b &&& 1 ≤ 1 := Nat.and_le_right
    refine V_iconst C d_md_leads_100 ?_
    refine V_cmpne C 108 d_md_leads_101 (by decide) ⟨by omega, by omega⟩ ⟨by omega, by omega⟩ (fun hr2 => ?_) (fun hr2 => ?_)
    · refine V_iconst C d_md_leads_108 ?_
      exact V_zret C hr d_md_leads_109 (by decide) (zB_f (fun z => hr2 (tb_1.mpr z))) rfl
    · refine V_iconst C d_md_leads_104 ?_
      refine V_goto C 109 d_md_leads_105 (by decide) ?_
      exact V_zret C hr d_md_leads_109 (by decide) (zB_t (tb_1.mp hr2)) rfl
  · have hit : t < n := by omega
    refine V_iconst C d_md_leads_16 ?_
    refine V_istore (lv' := [(5, _), (4, _), (3, _), (0, _), (1, _), (2, _)]) C d_md_leads_17 (by decide) rfl ?_
    refine V_sub (lv' := [(5, _), (4, _), (3, _), (0, _), (1, _), (2, _)]) [0, 1, 2, 3, 4, 5] rfl ?_
    refine loopUp (n := n) (P := fun x => V p l e rm_md_leads u m args below meth c 7 w LL CC 0 0 (MQ below (zQi w LL CC (zB ((ldT σ n (2 ^ a) n).testBit b = true)) (σ) u.heap.size) args u 0 0 (zA w LL.1 u.heap.size)) 19 [(5, .int (zI ((x : Int)))), (4, .int (zI ((t : Int)))), (3, .int (zI (((ldX σ n (ldT σ n (2 ^ a) t) x : Nat) : Int)))), (0, .ref (w.1 32)), (1, .int (zI ((a : Int)))), (2, .int (zI ((b : Int))))] [] (σ)) (fun x hix ihx => ?_) 0 (Nat.zero_le _)
    show V p l e rm_md_leads u m args below meth c 7 w LL CC 0 0 (MQ below (zQi w LL CC (zB ((ldT σ n (2 ^ a) n).testBit b = true)) (σ) u.heap.size) args u 0 0 (zA w LL.1 u.heap.size)) 19 [(5, .int (zI ((x : Int)))), (4, .int (zI ((t : Int)))), (3, .int (zI (((ldX σ n (ldT σ n (2 ^ a) t) x : Nat) : Int)))), (0, .ref (w.1 32)), (1, .int (zI ((a : Int)))), (2, .int (zI ((b : Int))))] [] (σ)
    refine V_iload C d_md_leads_19 0 rfl ?_
    refine V_aload_n C d_md_leads_21 3 rfl ?_
    refine V_geti C 32 0 (by decide) rfl rfl in_md (by decide) rfl wd_454 d_md_leads_22 ?_
    refine V_ti hn ?_
    refine V_cmpge C 89 d_md_leads_25 (by decide) ⟨by omega, by omega⟩ ⟨by omega, by omega⟩ (fun hf => ?_) (fun hf => ?_)
    · have hix : x = n := by omega
      subst hix
      refine V_iinc (lv' := [(4, _), (5, _), (3, _), (0, _), (1, _), (2, _)]) C d_md_leads_89 1 rfl (by decide) rfl ?_
      refine V_goto C 7 d_md_leads_92 (by decide) ?_
      refine V_sub (lv' := [(4, _), (3, _), (0, _), (1, _), (2, _)]) [0, 2, 3, 4, 5] rfl ?_
      exact iht hit
    · have hix : x < n := by omega
      have hX := ldX_128 (σ := σ) (n := n) hn7 (ldT_128 (σ := σ) (n := n) hn7 h2a t) x
      refine V_iconst C d_md_leads_28 ?_
      refine V_istore (lv' := [(6, _), (5, _), (4, _), (3, _), (0, _), (1, _), (2, _)]) C d_md_leads_29 (by decide) rfl ?_
      refine V_sub (lv' := [(6, _), (5, _), (4, _), (3, _), (0, _), (1, _), (2, _)]) [0, 1, 2, 3, 4, 5, 6] rfl ?_
      rw [show (ldX σ n (ldT σ n (2 ^ a) t) x) = ldP σ x (ldX σ n (ldT σ n (2 ^ a) t) x) 0 by unfold ldP; rw [ldY]; split <;> rfl]
      refine loopUp (n := n) (P := fun y => V p l e rm_md_leads u m args below meth c 7 w LL CC 0 0 (MQ below (zQi w LL CC (zB ((ldT σ n (2 ^ a) n).testBit b = true)) (σ) u.heap.size) args u 0 0 (zA w LL.1 u.heap.size)) 31 [(6, .int (zI (y : Int))), (5, .int (zI (x : Int))), (4, .int (zI (t : Int))), (3, .int (zI ((ldP σ x (ldX σ n (ldT σ n (2 ^ a) t) x) y : Nat) : Int))), (0, .ref (w.1 32)), (1, .int (zI (a : Int))), (2, .int (zI (b : Int)))] [] σ) (fun y hiy ihy => ?_) 0 (Nat.zero_le _)
      show V p l e rm_md_leads u m args below meth c 7 w LL CC 0 0 (MQ below (zQi w LL CC (zB ((ldT σ n (2 ^ a) n).testBit b = true)) (σ) u.heap.size) args u 0 0 (zA w LL.1 u.heap.size)) 31 [(6, .int (zI (y : Int))), (5, .int (zI (x : Int))), (4, .int (zI (t : Int))), (3, .int (zI ((ldP σ x (ldX σ n (ldT σ n (2 ^ a) t) x) y : Nat) : Int))), (0, .ref (w.1 32)), (1, .int (zI (a : Int))), (2, .int (zI (b : Int)))] [] σ
      have h128 := ldP_128 (σ := σ) (x := x) (y := y) hX (by omega)
      refine V_iload C d_md_leads_31 0 rfl ?_
      refine V_aload_n C d_md_leads_33 4 rfl ?_
      refine V_geti C 32 0 (by decide) rfl rfl in_md (by decide) rfl wd_454 d_md_leads_34 ?_
      refine V_ti hn ?_
      refine V_cmpge C 83 d_md_leads_37 (by decide) ⟨by omega, by omega⟩ ⟨by omega, by omega⟩ (fun hg => ?_) (fun hg => ?_)
      · have hyn : y = n := by omega
        subst hyn
        refine V_iinc (lv' := [(5, _), (6, _), (4, _), (3, _), (0, _), (1, _), (2, _)]) C d_md_leads_83 1 rfl (by decide) rfl ?_
        refine V_goto C 19 d_md_leads_86 (by decide) ?_
        refine V_sub (lv' := [(5, _), (4, _), (3, _), (0, _), (1, _), (2, _)]) [0, 2, 3, 4, 5, 6] rfl ?_
        have h99 := ihx hix
        rw [← ldX_s] at h99
        first | exact h99 | (rw [← hout] at h99; exact h99)
      · have hyn : y < n := by omega
        refine V_iload_n C d_md_leads_40 3 rfl ?_
        refine V_iload C d_md_leads_41 1 rfl ?_
        refine V_ishr C (((ldP σ x (ldX σ n (ldT σ n (2 ^ a) t) x) y / 2 ^ x : Nat) : Int)) d_md_leads_43 (zI_shr (by omega) (by omega)) ?_
        refine V_iconst C d_md_leads_44 ?_
        refine V_iand C (((ldP σ x (ldX σ n (ldT σ n (2 ^ a) t) x) y / 2 ^ x &&& 1 : Nat) : Int)) d_md_leads_45 (zI_and _ 1) ?_
        have hle : ldP σ x (ldX σ n (ldT σ n (2 ^ a) t) x) y / 2 ^ x &&& 1 ≤ 1 := Nat.and_le_right
        refine V_iconst C d_md_leads_46 ?_
        refine V_cmpne C 83 d_md_leads_47 (by decide) ⟨by omega, by omega⟩ ⟨by omega, by omega⟩ (fun hbit => ?_) (fun hbit => ?_)
        · have hout := ldP_out (n := n) (fun z => hbit (tb_1.mpr z))
          refine V_iinc (lv' := [(5, _), (6, _), (4, _), (3, _), (0, _), (1, _), (2, _)]) C d_md_leads_83 1 rfl (by decide) rfl ?_
          refine V_goto C 19 d_md_leads_86 (by decide) ?_
          refine V_sub (lv' := [(5, _), (4, _), (3, _), (0, _), (1, _), (2, _)]) [0, 2, 3, 4, 5, 6] rfl ?_
          have h99 := ihx hix
          rw [← ldX_s] at h99
          first | exact h99 | (rw [← hout] at h99; exact h99)
        · have hbit := tb_1.mp hbit
          refine V_iload_n C d_md_leads_50 3 rfl ?_
          refine V_aload_n C d_md_leads_51 4 rfl ?_
          refine V_getr C 32 8 40 (by decide) rfl rfl in_md (by decide) rfl wd_462 d_md_leads_52 ?_
          refine V_bipush C d_md_leads_55 (by decide) ?_
          refine V_iload C d_md_leads_57 1 rfl ?_
          refine V_imul C d_md_leads_59 ?_
          refine V_iload C d_md_leads_60 0 rfl ?_
          refine V_iadd C d_md_leads_62 ?_
          refine V_zald C 40 (7 * x + y) (by decide) rfl (by omega) (by omega) (by decide) d_md_leads_63 ?_
          have q40 := h40 (7 * x + y) (by omega)
          refine V_ifeq C 74 d_md_leads_64 (by decide) ⟨by omega, by omega⟩ (fun hz => ?_) (fun hz => ?_)
          · refine V_iconst C d_md_leads_74 ?_
            refine V_ior C (((ldP σ x (ldX σ n (ldT σ n (2 ^ a) t) x) y ||| 0 : Nat) : Int)) d_md_leads_75 (zI_or _ 0) ?_
            rw [Nat.or_zero]
            refine V_istore_n (lv' := [(3, _), (6, _), (5, _), (4, _), (0, _), (1, _), (2, _)]) C d_md_leads_76 (by decide) rfl ?_
            refine V_iinc (lv' := [(6, _), (3, _), (5, _), (4, _), (0, _), (1, _), (2, _)]) C d_md_leads_77 1 rfl (by decide) rfl ?_
            refine V_goto C 31 d_md_leads_80 (by decide) ?_
            refine V_sub (lv' := [(6, _), (5, _), (4, _), (3, _), (0, _), (1, _), (2, _)]) [0, 2, 3, 1, 4, 5, 6] rfl ?_
            have h99 := ihy hyn
            first | (rw [ldP_f hbit hz] at h99; exact h99) | (rw [ldP_t hbit hz] at h99; exact h99)
          · refine V_iconst C d_md_leads_67 ?_
            refine V_iload C d_md_leads_68 0 rfl ?_
            refine V_ishl C (((2 ^ y : Nat) : Int)) d_md_leads_70 (zI_shl1 (by omega)) ?_
            refine V_goto C 75 d_md_leads_71 (by decide) ?_
            refine V_ior C (((wi (ldP σ x (ldX σ n (ldT σ n (2 ^ a) t) x) y) y : Nat) : Int)) d_md_leads_75 zI_wi ?_
            refine V_istore_n (lv' := [(3, _), (6, _), (5, _), (4, _), (0, _), (1, _), (2, _)]) C d_md_leads_76 (by decide) rfl ?_
            refine V_iinc (lv' := [(6, _), (3, _), (5, _), (4, _), (0, _), (1, _), (2, _)]) C d_md_leads_77 1 rfl (by decide) rfl ?_
            refine V_goto C 31 d_md_leads_80 (by decide) ?_
            refine V_sub (lv' := [(6, _), (5, _), (4, _), (3, _), (0, _), (1, _), (2, _)]) [0, 2, 3, 1, 4, 5, 6] rfl ?_
            have h99 := ihy hyn
            first | (rw [ldP_f hbit hz] at h99; exact h99) | (rw [ldP_t hbit hz] at h99; exact h99)

set_option maxRecDepth 20000 in
set_option maxHeartbeats 4000000 in
theorem c_md_before (l : Launch) (w : zW) (σ : Nat → Nat → Int) (a b : Int) (ha : rI a) (hb : rI b) (n : Nat) (hn : σ 32 0 = (n : Int)) (hn7 : n ≤ 7) (h40 : bd σ 40 49 0 1) : zMi l w LL CC g_md_before rm_md_before [.ref (w.1 32), .int (zI (a)), .int (zI (b))] σ (zB (0 ≤ a ∧ a < n ∧ 0 ≤ b ∧ b < n ∧ a ≠ b ∧ σ 40 (7 * a.toNat + b.toNat) = 0 ∧ ¬ (ldT σ n (2 ^ b.toNat) n).testBit a.toNat = true)) (if 0 ≤ a ∧ a < n ∧ 0 ≤ b ∧ b < n ∧ a ≠ b ∧ σ 40 (7 * a.toNat + b.toNat) = 0 ∧ ¬ (ldT σ n (2 ^ b.toNat) n).testBit a.toNat = true then zU σ 40 (7 * a.toNat + b.toNat) 1 else σ) := by
  refine zMi.of g_md_before (by decide +kernel) (Nat.le_of_ble_eq_true rfl) rfl ?_
  intro p e u m args below meth c C hr
  have C : zC p u m args meth c prog_7_method_14_code 3 "RoundPlansModel" w LL CC := C
  have hr : meth.sig.returnType = (some .boolean) := hr
  obtain ⟨ha3, ha4⟩ := id ha
  obtain ⟨hb3, hb4⟩ := id hb
  show V p l e rm_md_before u m args below meth c 3 w LL CC 0 0 (MQ below (zQi w LL CC (zB (0 ≤ a ∧ a < n ∧ 0 ≤ b ∧ b < n ∧ a ≠ b ∧ σ 40 (7 * a.toNat + b.toNat) = 0 ∧ ¬ (ldT σ n (2 ^ b.toNat) n).testBit a.toNat = true)) (if 0 ≤ a ∧ a < n ∧ 0 ≤ b ∧ b < n ∧ a ≠ b ∧ σ 40 (7 * a.toNat + b.toNat) = 0 ∧ ¬ (ldT σ n (2 ^ b.toNat) n).testBit a.toNat = true then zU σ 40 (7 * a.toNat + b.toNat) 1 else σ) u.heap.size) args u 0 0 (zA w LL.1 u.heap.size)) 0 [(0, .ref (w.1 32)), (1, .int (zI (a))), (2, .int (zI (b)))] [] σ
  refine V_aload_n C d_md_before_0 0 rfl ?_
  refine V_iload_n C d_md_before_1 1 rfl ?_
  refine V_iload_n C d_md_before_2 2 rfl ?_
  refine V_callVi C 32 (by decide) rfl rfl (c_md_arePair l w σ a b ha hb n hn hn7) wd_584 wd_586 ws_12 wd_7 wd_587 o_md_arePair ⟨rfl, rfl, Nat.le_of_ble_eq_true rfl, Nat.le_of_ble_eq_true rfl⟩ rfl rfl (Nat.le_of_ble_eq_true rfl) d_md_before_3 ⟨Nat.zero_le _, Nat.zero_le _⟩ ?_
  refine V_ifeqB C 32 d_md_before_6 (by decide) (fun ht => ?_) (fun ht => ?_)
  · refine V_iconst C d_md_before_32 ?_
    exact V_zret C hr d_md_before_33 (by decide) (zB_f (by intro z; first | omega | (exact hb1 z.2.2.2.2.2.1) | (exact z.2.2.2.2.2.2 hb2))) (by rw [if_neg (by intro z; first | omega | (exact hb1 z.2.2.2.2.2.1) | (exact z.2.2.2.2.2.2 hb2))])
  · obtain ⟨i, rfl⟩ : ∃ i : Nat, a = (i : Int) := ⟨a.toNat, by omega⟩
    obtain ⟨j, rfl⟩ : ∃ j : Nat, b = (j : Int) := ⟨b.toNat, by omega⟩
    refine V_aload_n C d_md_before_9 0 rfl ?_
    refine V_getr C 32 8 40 (by decide) rfl rfl in_md (by decide) rfl wd_462 d_md_before_10 ?_
    refine V_bipush C d_md_before_13 (by decide) ?_
    refine V_iload_n C d_md_before_15 1 rfl ?_
    refine V_imul C d_md_before_16 ?_
    refine V_iload_n C d_md_before_17 2 rfl ?_
    refine V_iadd C d_md_before_18 ?_
    refine V_zald C 40 (7 * i + j) (by decide) rfl (by omega) (by omega) (by decide) d_md_before_19 ?_
    have q40 := h40 (7 * i + j) (by omega)
    refine V_ifne C 32 d_md_before_20 (by decide) ⟨by omega, by omega⟩ (fun hb1 => ?_) (fun hb1 => ?_)
    · refine V_iconst C d_md_before_32 ?_
      exact V_zret C hr d_md_before_33 (by decide) (zB_f (by intro z; first | omega | (exact hb1 z.2.2.2.2.2.1) | (exact z.2.2.2.2.2.2 hb2))) (by rw [if_neg (by intro z; first | omega | (exact hb1 z.2.2.2.2.2.1) | (exact z.2.2.2.2.2.2 hb2))])
    · refine V_aload_n C d_md_before_23 0 rfl ?_
      refine V_iload_n C d_md_before_24 2 rfl ?_
      refine V_iload_n C d_md_before_25 1 rfl ?_
      refine V_callVi C 32 (by decide) rfl rfl (c_md_leads l w σ j i (by omega) (by omega) h40 n hn hn7) wd_592 wd_594 ws_13 wd_7 wd_595 o_md_leads ⟨rfl, rfl, Nat.le_of_ble_eq_true rfl, Nat.le_of_ble_eq_true rfl⟩ rfl rfl (Nat.le_of_ble_eq_true rfl) d_md_before_26 ⟨Nat.zero_le _, Nat.zero_le _⟩ ?_
      refine V_ifeqB C 34 d_md_before_29 (by decide) (fun hb2 => ?_) (fun hb2 => ?_)
      · refine V_aload_n C d_md_before_34 0 rfl ?_
        refine V_getr C 32 8 40 (by decide) rfl rfl in_md (by decide) rfl wd_462 d_md_before_35 ?_
        refine V_bipush C d_md_before_38 (by decide) ?_
        refine V_iload_n C d_md_before_40 1 rfl ?_
        refine V_imul C d_md_before_41 ?_
        refine V_iload_n C d_md_before_42 2 rfl ?_
        refine V_iadd C d_md_before_43 ?_
        refine V_iconst C d_md_before_44 ?_
        refine V_zast C 40 (7 * i + j) (by decide) rfl (by omega) (by omega) (by omega) (by decide) d_md_before_45 ?_
        refine V_iconst C d_md_before_46 ?_
        exact V_zret C hr d_md_before_47 (by decide) (zB_t ⟨by omega, by omega, by omega, by omega, by omega, hb1, hb2⟩) (by rw [if_pos ⟨by omega, by omega, by omega, by omega, by omega, hb1, hb2⟩]; rfl)
      · refine V_iconst C d_md_before_32 ?_
        exact V_zret C hr d_md_before_33 (by decide) (zB_f (by intro z; first | omega | (exact hb1 z.2.2.2.2.2.1) | (exact z.2.2.2.2.2.2 hb2))) (by rw [if_neg (by intro z; first | omega | (exact hb1 z.2.2.2.2.2.1) | (exact z.2.2.2.2.2.2 hb2))])

set_option maxRecDepth 20000 in
set_option maxHeartbeats 4000000 in
theorem c_md_cost (l : Launch) (w : zW) (σ : Nat → Nat → Int) (hf : σ 32 18 = 0 ∨ σ 32 18 = 1) : zMl l w LL CC g_md_cost rm_md_cost [.ref (w.1 32)] σ (if σ 32 18 = 0 then -1 else σ 32 21) (σ) := by
  refine zMl.of g_md_cost (by decide +kernel) (Nat.le_of_ble_eq_true rfl) rfl ?_
  intro p e u m args below meth c C hr
  have C : zC p u m args meth c prog_7_method_27_code 1 "RoundPlansModel" w LL CC := C
  have hr : meth.sig.returnType = (some .long) := hr
  show V p l e rm_md_cost u m args below meth c 1 w LL CC 0 0 (MQ below (zQl w LL CC (if σ 32 18 = 0 then -1 else σ 32 21) (σ) u.heap.size) args u 0 0 (zA w LL.1 u.heap.size)) 0 [(0, .ref (w.1 32))] [] σ
  refine V_aload_n C d_md_cost_0 0 rfl ?_
  refine V_geti C 32 18 (by decide) rfl rfl in_md (by decide) rfl wd_472 d_md_cost_1 ?_
  refine V_ifeq C 14 d_md_cost_4 (by decide) ⟨by omega, by omega⟩ (fun h1 => ?_) (fun h1 => ?_)
  · refine V_ldc2 C (-1) d_md_cost_14 (by rw [show zL (-1) = (-1 : Int64) by decide]; exact wd_635) ?_
    exact V_lret C hr d_md_cost_17 (by rw [if_pos h1]) rfl
  · refine V_aload_n C d_md_cost_7 0 rfl ?_
    refine V_getl C 32 21 (by decide) rfl rfl in_md (by decide) rfl wd_475 d_md_cost_8 ?_
    refine V_goto C 17 d_md_cost_11 (by decide) ?_
    exact V_lret C hr d_md_cost_17 (by rw [if_neg h1]) rfl

set_option maxRecDepth 20000 in
set_option maxHeartbeats 4000000 in
theorem c_md_vehicleOf (l : Launch) (w : zW) (σ : Nat → Nat → Int) (k : Int) (hk : rI k) (n : Nat) (hn : σ 32 19 = (n : Int)) (hn7 : n ≤ 7) : zMi l w LL CC g_md_vehicleOf rm_md_vehicleOf [.ref (w.1 32), .int (zI (k))] σ (if 0 ≤ k ∧ k < n then σ 49 k.toNat else -1) (σ) := by
  refine zMi.of g_md_vehicleOf (by decide +kernel) (Nat.le_of_ble_eq_true rfl) rfl ?_
  intro p e u m args below meth c C hr
  have C : zC p u m args meth c prog_7_method_28_code 2 "RoundPlansModel" w LL CC := C
  have hr : meth.sig.returnType = (some .int) := hr
  obtain ⟨hk1, hk2⟩ := id hk
  show V p l e rm_md_vehicleOf u m args below meth c 2 w LL CC 0 0 (MQ below (zQi w LL CC (if 0 ≤ k ∧ k < n then σ 49 k.toNat else -1) (σ) u.heap.size) args u 0 0 (zA w LL.1 u.heap.size)) 0 [(0, .ref (w.1 32)), (1, .int (zI (k)))] [] σ
  refine V_iload_n C d_md_vehicleOf_0 1 rfl ?_
  refine V_iflt C 21 d_md_vehicleOf_1 (by decide) ⟨by omega, by omega⟩ (fun h1 => ?_) (fun h1 => ?_)
  · refine V_iconst C d_md_vehicleOf_21 ?_
    exact V_iret C hr d_md_vehicleOf_22 (by first | (rw [if_neg (by omega)]) | (rw [if_pos (by omega)]; rfl)) rfl
  · refine V_iload_n C d_md_vehicleOf_4 1 rfl ?_
    refine V_aload_n C d_md_vehicleOf_5 0 rfl ?_
    refine V_geti C 32 19 (by decide) rfl rfl in_md (by decide) rfl wd_473 d_md_vehicleOf_6 ?_
    refine V_ti hn ?_
    refine V_cmpge C 21 d_md_vehicleOf_9 (by decide) ⟨by omega, by omega⟩ ⟨by omega, by omega⟩ (fun h2 => ?_) (fun h2 => ?_)
    · refine V_iconst C d_md_vehicleOf_21 ?_
      exact V_iret C hr d_md_vehicleOf_22 (by first | (rw [if_neg (by omega)]) | (rw [if_pos (by omega)]; rfl)) rfl
    · obtain ⟨i, rfl⟩ : ∃ i : Nat, k = (i : Int) := ⟨k.toNat, by omega⟩
      refine V_aload_n C d_md_vehicleOf_12 0 rfl ?_
      refine V_getr C 32 22 49 (by decide) rfl rfl in_md (by decide) rfl wd_476 d_md_vehicleOf_13 ?_
      refine V_iload_n C d_md_vehicleOf_16 1 rfl ?_
      refine V_iald C 49 _ (by decide) rfl rfl (by omega) (by decide) d_md_vehicleOf_17 ?_
      refine V_goto C 22 d_md_vehicleOf_18 (by decide) ?_
      exact V_iret C hr d_md_vehicleOf_22 (by first | (rw [if_neg (by omega)]) | (rw [if_pos (by omega)]; rfl)) rfl

set_option maxRecDepth 20000 in
set_option maxHeartbeats 4000000 in
theorem c_md_begun (l : Launch) (w : zW) (σ : Nat → Nat → Int) (k : Int) (hk : rI k) (n : Nat) (hn : σ 32 19 = (n : Int)) (hn7 : n ≤ 7) : zMi l w LL CC g_md_begun rm_md_begun [.ref (w.1 32), .int (zI (k))] σ (if 0 ≤ k ∧ k < n then σ 50 k.toNat else -1) (σ) := by
  refine zMi.of g_md_begun (by decide +kernel) (Nat.le_of_ble_eq_true rfl) rfl ?_
  intro p e u m args below meth c C hr
  have C : zC p u m args meth c prog_7_method_30_code 2 "RoundPlansModel" w LL CC := C
  have hr : meth.sig.returnType = (some .int) := hr
  obtain ⟨hk1, hk2⟩ := id hk
  show V p l e rm_md_begun u m args below meth c 2 w LL CC 0 0 (MQ below (zQi w LL CC (if 0 ≤ k ∧ k < n then σ 50 k.toNat else -1) (σ) u.heap.size) args u 0 0 (zA w LL.1 u.heap.size)) 0 [(0, .ref (w.1 32)), (1, .int (zI (k)))] [] σ
  refine V_iload_n C d_md_begun_0 1 rfl ?_
  refine V_iflt C 21 d_md_begun_1 (by decide) ⟨by omega, by omega⟩ (fun h1 => ?_) (fun h1 => ?_)
  · refine V_iconst C d_md_begun_21 ?_
    exact V_iret C hr d_md_begun_22 (by first | (rw [if_neg (by omega)]) | (rw [if_pos (by omega)]; rfl)) rfl
  · refine V_iload_n C d_md_begun_4 1 rfl ?_
    refine V_aload_n C d_md_begun_5 0 rfl ?_
    refine V_geti C 32 19 (by decide) rfl rfl in_md (by decide) rfl wd_473 d_md_begun_6 ?_
    refine V_ti hn ?_
    refine V_cmpge C 21 d_md_begun_9 (by decide) ⟨by omega, by omega⟩ ⟨by omega, by omega⟩ (fun h2 => ?_) (fun h2 => ?_)
    · refine V_iconst C d_md_begun_21 ?_
      exact V_iret C hr d_md_begun_22 (by first | (rw [if_neg (by omega)]) | (rw [if_pos (by omega)]; rfl)) rfl
    · obtain ⟨i, rfl⟩ : ∃ i : Nat, k = (i : Int) := ⟨k.toNat, by omega⟩
      refine V_aload_n C d_md_begun_12 0 rfl ?_
      refine V_getr C 32 23 50 (by decide) rfl rfl in_md (by decide) rfl wd_477 d_md_begun_13 ?_
      refine V_iload_n C d_md_begun_16 1 rfl ?_
      refine V_iald C 50 _ (by decide) rfl rfl (by omega) (by decide) d_md_begun_17 ?_
      refine V_goto C 22 d_md_begun_18 (by decide) ?_
      exact V_iret C hr d_md_begun_22 (by first | (rw [if_neg (by omega)]) | (rw [if_pos (by omega)]; rfl)) rfl

set_option maxRecDepth 20000 in
set_option maxHeartbeats 4000000 in
theorem c_md_back (l : Launch) (w : zW) (σ : Nat → Nat → Int) (k : Int) (hk : rI k) (nv : Nat) (hv : σ 32 20 = (nv : Int)) (hv3 : nv ≤ 3) : zMi l w LL CC g_md_back rm_md_back [.ref (w.1 32), .int (zI (k))] σ (if 0 ≤ k ∧ k < nv then σ 53 k.toNat else -1) (σ) := by
  refine zMi.of g_md_back (by decide +kernel) (Nat.le_of_ble_eq_true rfl) rfl ?_
  intro p e u m args below meth c C hr
  have C : zC p u m args meth c prog_7_method_31_code 2 "RoundPlansModel" w LL CC := C
  have hr : meth.sig.returnType = (some .int) := hr
  obtain ⟨hk1, hk2⟩ := id hk
  show V p l e rm_md_back u m args below meth c 2 w LL CC 0 0 (MQ below (zQi w LL CC (if 0 ≤ k ∧ k < nv then σ 53 k.toNat else -1) (σ) u.heap.size) args u 0 0 (zA w LL.1 u.heap.size)) 0 [(0, .ref (w.1 32)), (1, .int (zI (k)))] [] σ
  refine V_iload_n C d_md_back_0 1 rfl ?_
  refine V_iflt C 21 d_md_back_1 (by decide) ⟨by omega, by omega⟩ (fun h1 => ?_) (fun h1 => ?_)
  · refine V_iconst C d_md_back_21 ?_
    exact V_iret C hr d_md_back_22 (by first | (rw [if_neg (by omega)]) | (rw [if_pos (by omega)]; rfl)) rfl
  · refine V_iload_n C d_md_back_4 1 rfl ?_
    refine V_aload_n C d_md_back_5 0 rfl ?_
    refine V_geti C 32 20 (by decide) rfl rfl in_md (by decide) rfl wd_474 d_md_back_6 ?_
    refine V_ti hv ?_
    refine V_cmpge C 21 d_md_back_9 (by decide) ⟨by omega, by omega⟩ ⟨by omega, by omega⟩ (fun h2 => ?_) (fun h2 => ?_)
    · refine V_iconst C d_md_back_21 ?_
      exact V_iret C hr d_md_back_22 (by first | (rw [if_neg (by omega)]) | (rw [if_pos (by omega)]; rfl)) rfl
    · obtain ⟨i, rfl⟩ : ∃ i : Nat, k = (i : Int) := ⟨k.toNat, by omega⟩
      refine V_aload_n C d_md_back_12 0 rfl ?_
      refine V_getr C 32 26 53 (by decide) rfl rfl in_md (by decide) rfl wd_480 d_md_back_13 ?_
      refine V_iload_n C d_md_back_16 1 rfl ?_
      refine V_iald C 53 _ (by decide) rfl rfl (by omega) (by decide) d_md_back_17 ?_
      refine V_goto C 22 d_md_back_18 (by decide) ?_
      exact V_iret C hr d_md_back_22 (by first | (rw [if_neg (by omega)]) | (rw [if_pos (by omega)]; rfl)) rfl

set_option maxRecDepth 20000 in
set_option maxHeartbeats 4000000 in
theorem c_md_saved (l : Launch) (w : zW) (σ : Nat → Nat → Int) (k : Int) (hk : rI k) (nv : Nat) (hv : σ 32 20 = (nv : Int)) (hv3 : nv ≤ 3) : zMl l w LL CC g_md_saved rm_md_saved [.ref (w.1 32), .int (zI (k))] σ (if 0 ≤ k ∧ k < nv then σ 54 k.toNat else -1) (σ) := by
  refine zMl.of g_md_saved (by decide +kernel) (Nat.le_of_ble_eq_true rfl) rfl ?_
  intro p e u m args below meth c C hr
  have C : zC p u m args meth c prog_7_method_32_code 2 "RoundPlansModel" w LL CC := C
  have hr : meth.sig.returnType = (some .long) := hr
  obtain ⟨hk1, hk2⟩ := id hk
  show V p l e rm_md_saved u m args below meth c 2 w LL CC 0 0 (MQ below (zQl w LL CC (if 0 ≤ k ∧ k < nv then σ 54 k.toNat else -1) (σ) u.heap.size) args u 0 0 (zA w LL.1 u.heap.size)) 0 [(0, .ref (w.1 32)), (1, .int (zI (k)))] [] σ
  refine V_iload_n C d_md_saved_0 1 rfl ?_
  refine V_iflt C 21 d_md_saved_1 (by decide) ⟨by omega, by omega⟩ (fun h1 => ?_) (fun h1 => ?_)
  · refine V_ldc2 C (-1) d_md_saved_21 (by rw [show zL (-1) = (-1 : Int64) by decide]; exact wd_635) ?_
    exact V_lret C hr d_md_saved_24 (by first | (rw [if_neg (by omega)]) | (rw [if_pos (by omega)]; rfl)) rfl
  · refine V_iload_n C d_md_saved_4 1 rfl ?_
    refine V_aload_n C d_md_saved_5 0 rfl ?_
    refine V_geti C 32 20 (by decide) rfl rfl in_md (by decide) rfl wd_474 d_md_saved_6 ?_
    refine V_ti hv ?_
    refine V_cmpge C 21 d_md_saved_9 (by decide) ⟨by omega, by omega⟩ ⟨by omega, by omega⟩ (fun h2 => ?_) (fun h2 => ?_)
    · refine V_ldc2 C (-1) d_md_saved_21 (by rw [show zL (-1) = (-1 : Int64) by decide]; exact wd_635) ?_
      exact V_lret C hr d_md_saved_24 (by first | (rw [if_neg (by omega)]) | (rw [if_pos (by omega)]; rfl)) rfl
    · obtain ⟨i, rfl⟩ : ∃ i : Nat, k = (i : Int) := ⟨k.toNat, by omega⟩
      refine V_aload_n C d_md_saved_12 0 rfl ?_
      refine V_getr C 32 27 54 (by decide) rfl rfl in_md (by decide) rfl wd_481 d_md_saved_13 ?_
      refine V_iload_n C d_md_saved_16 1 rfl ?_
      refine V_lald C 54 _ (by decide) rfl rfl (by omega) (by decide) d_md_saved_17 ?_
      refine V_goto C 24 d_md_saved_18 (by decide) ?_
      exact V_lret C hr d_md_saved_24 (by first | (rw [if_neg (by omega)]) | (rw [if_pos (by omega)]; rfl)) rfl

set_option maxRecDepth 20000 in
set_option maxHeartbeats 4000000 in
theorem c_md_at (l : Launch) (w : zW) (σ : Nat → Nat → Int) (k j : Int) (hk : rI k) (hj : rI j) (hl : bd σ 52 3 0 7) (h51 : bd σ 51 3 0 2097151) (nv : Nat) (hv : σ 32 20 = (nv : Int)) (hv3 : nv ≤ 3) : zMi l w LL CC g_md_at rm_md_at [.ref (w.1 32), .int (zI (k)), .int (zI (j))] σ (if 0 ≤ k ∧ k < nv ∧ 0 ≤ j ∧ j < σ 52 k.toNat then (((σ 51 k.toNat).toNat / 2 ^ (3 * j.toNat) &&& 7 : Nat) : Int) else -1) (σ) := by
  refine zMi.of g_md_at (by decide +kernel) (Nat.le_of_ble_eq_true rfl) rfl ?_
  intro p e u m args below meth c C hr
  have C : zC p u m args meth c prog_7_method_29_code 3 "RoundPlansModel" w LL CC := C
  have hr : meth.sig.returnType = (some .int) := hr
  obtain ⟨hk1, hk2⟩ := id hk
  obtain ⟨hj1, hj2⟩ := id hj
  show V p l e rm_md_at u m args below meth c 3 w LL CC 0 0 (MQ below (zQi w LL CC (if 0 ≤ k ∧ k < nv ∧ 0 ≤ j ∧ j < σ 52 k.toNat then (((σ 51 k.toNat).toNat / 2 ^ (3 * j.toNat) &&& 7 : Nat) : Int) else -1) (σ) u.heap.size) args u 0 0 (zA w LL.1 u.heap.size)) 0 [(0, .ref (w.1 32)), (1, .int (zI (k))), (2, .int (zI (j)))] [] σ
  refine V_iload_n C d_md_at_0 1 rfl ?_
  refine V_iflt C 42 d_md_at_1 (by decide) ⟨by omega, by omega⟩ (fun h1 => ?_) (fun h1 => ?_)
  · refine V_iconst C d_md_at_42 ?_
    exact V_iret C hr d_md_at_43 (by first | (rw [if_neg (by omega)]) | (rw [if_neg (by rw [Int.toNat_natCast]; omega)]) | (rw [if_pos (by rw [Int.toNat_natCast]; omega)]; rfl)) rfl
  · refine V_iload_n C d_md_at_4 1 rfl ?_
    refine V_aload_n C d_md_at_5 0 rfl ?_
    refine V_geti C 32 20 (by decide) rfl rfl in_md (by decide) rfl wd_474 d_md_at_6 ?_
    refine V_ti hv ?_
    refine V_cmpge C 42 d_md_at_9 (by decide) ⟨by omega, by omega⟩ ⟨by omega, by omega⟩ (fun h2 => ?_) (fun h2 => ?_)
    · refine V_iconst C d_md_at_42 ?_
      exact V_iret C hr d_md_at_43 (by first | (rw [if_neg (by omega)]) | (rw [if_neg (by rw [Int.toNat_natCast]; omega)]) | (rw [if_pos (by rw [Int.toNat_natCast]; omega)]; rfl)) rfl
    · refine V_iload_n C d_md_at_12 2 rfl ?_
      refine V_iflt C 42 d_md_at_13 (by decide) ⟨by omega, by omega⟩ (fun h3 => ?_) (fun h3 => ?_)
      · refine V_iconst C d_md_at_42 ?_
        exact V_iret C hr d_md_at_43 (by first | (rw [if_neg (by omega)]) | (rw [if_neg (by rw [Int.toNat_natCast]; omega)]) | (rw [if_pos (by rw [Int.toNat_natCast]; omega)]; rfl)) rfl
      · obtain ⟨i, rfl⟩ : ∃ i : Nat, k = (i : Int) := ⟨k.toNat, by omega⟩
        have hli := hl i (by omega)
        refine V_iload_n C d_md_at_16 2 rfl ?_
        refine V_aload_n C d_md_at_17 0 rfl ?_
        refine V_getr C 32 25 52 (by decide) rfl rfl in_md (by decide) rfl wd_479 d_md_at_18 ?_
        refine V_iload_n C d_md_at_21 1 rfl ?_
        refine V_iald C 52 _ (by decide) rfl rfl (by omega) (by decide) d_md_at_22 ?_
        refine V_cmpge C 42 d_md_at_23 (by decide) ⟨by omega, by omega⟩ ⟨by omega, by omega⟩ (fun h4 => ?_) (fun h4 => ?_)
        · refine V_iconst C d_md_at_42 ?_
          exact V_iret C hr d_md_at_43 (by first | (rw [if_neg (by omega)]) | (rw [if_neg (by rw [Int.toNat_natCast]; omega)]) | (rw [if_pos (by rw [Int.toNat_natCast]; omega)]; rfl)) rfl
        · obtain ⟨y, rfl⟩ : ∃ y : Nat, j = (y : Int) := ⟨j.toNat, by omega⟩
          have h51i := h51 i (by omega)
          refine V_aload_n C d_md_at_26 0 rfl ?_
          refine V_getr C 32 24 51 (by decide) rfl rfl in_md (by decide) rfl wd_478 d_md_at_27 ?_
          refine V_iload_n C d_md_at_30 1 rfl ?_
          refine V_iald C 51 _ (by decide) rfl rfl (by omega) (by decide) d_md_at_31 ?_
          refine V_ti (b := (((σ 51 i).toNat : Nat) : Int)) (by omega) ?_
          refine V_iconst C d_md_at_32 ?_
          refine V_iload_n C d_md_at_33 2 rfl ?_
          refine V_imul C d_md_at_34 ?_
          refine V_ti (b := ((3 * y : Nat) : Int)) (by omega) ?_
          refine V_ishr C ((((σ 51 i).toNat / 2 ^ (3 * y) : Nat) : Int)) d_md_at_35 (zI_shr (by omega) (by omega)) ?_
          refine V_bipush C d_md_at_36 (by decide) ?_
          refine V_iand C ((((σ 51 i).toNat / 2 ^ (3 * y) &&& 7 : Nat) : Int)) d_md_at_38 (zI_and _ 7) ?_
          refine V_goto C 43 d_md_at_39 (by decide) ?_
          exact V_iret C hr d_md_at_43 (by first | (rw [if_neg (by omega)]) | (rw [if_neg (by rw [Int.toNat_natCast]; omega)]) | (rw [if_pos (by rw [Int.toNat_natCast]; omega)]; rfl)) rfl
