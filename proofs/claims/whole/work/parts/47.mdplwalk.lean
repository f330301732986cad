/-! the reference's plans: the contracts -/
set_option maxRecDepth 20000 in
set_option maxHeartbeats 4000000 in
theorem c_md_digit (l : Launch) (w : zW) (σ : Nat → Nat → Int) (p0 s : Nat) (hp : p0 < 2 ^ 31) (hs : s < 7) : zMi l w LL CC g_md_digit rm_md_digit [.int (zI ((p0 : Int))), .int (zI ((s : Int)))] σ (((dg p0 s : Nat) : Int)) (σ) := by
  refine zMi.of g_md_digit (by decide +kernel) (Nat.le_of_ble_eq_true rfl) rfl ?_
  intro p e u m args below meth c C hr
  have C : zC p u m args meth c prog_7_method_21_code 2 "RoundPlansModel" w LL CC := C
  have hr : meth.sig.returnType = (some .int) := hr
  show V p l e rm_md_digit u m args below meth c 2 w LL CC 0 0 (MQ below (zQi w LL CC (((dg p0 s : Nat) : Int)) (σ) u.heap.size) args u 0 0 (zA w LL.1 u.heap.size)) 0 [(0, .int (zI ((p0 : Int)))), (1, .int (zI ((s : Int))))] [] σ
  refine V_iload_n C d_md_digit_0 0 rfl ?_
  refine V_iconst C d_md_digit_1 ?_
  refine V_bipush C d_md_digit_2 (by decide) ?_
  refine V_iload_n C d_md_digit_4 1 rfl ?_
  refine V_isub C d_md_digit_5 ?_
  refine V_imul C d_md_digit_6 ?_
  refine V_ti (b := ((2 * (6 - s) : Nat) : Int)) (by omega) ?_
  refine V_ishr C (((p0 / 2 ^ (2 * (6 - s)) : Nat) : Int)) d_md_digit_7 (zI_shr (by omega) hp) ?_
  refine V_iconst C d_md_digit_8 ?_
  refine V_iand C (((p0 / 2 ^ (2 * (6 - s)) &&& 3 : Nat) : Int)) d_md_digit_9 (zI_and _ 3) ?_
  exact V_iret C hr d_md_digit_10 (by unfold dg; rw [and_3]) rfl

set_option maxRecDepth 20000 in
set_option maxHeartbeats 4000000 in
theorem c_md_setIn (l : Launch) (w : zW) (σ : Nat → Nat → Int) (n : Nat) (hn : σ 32 0 = (n : Int)) (hn7 : n ≤ 7) (p0 v : Nat) (hp : p0 < 2 ^ 31) (hv : v < 4) : zMi l w LL CC g_md_setIn rm_md_setIn [.ref (w.1 32), .int (zI ((p0 : Int))), .int (zI ((v : Int)))] σ (((siF p0 v n : Nat) : Int)) (σ) := by
  refine zMi.of g_md_setIn (by decide +kernel) (Nat.le_of_ble_eq_true rfl) rfl ?_
  intro p e u m args below meth c C hr
  have C : zC p u m args meth c prog_7_method_22_code 5 "RoundPlansModel" w LL CC := C
  have hr : meth.sig.returnType = (some .int) := hr
  show V p l e rm_md_setIn u m args below meth c 5 w LL CC 0 0 (MQ below (zQi w LL CC (((siF p0 v n : Nat) : Int)) (σ) u.heap.size) args u 0 0 (zA w LL.1 u.heap.size)) 0 [(0, .ref (w.1 32)), (1, .int (zI ((p0 : Int)))), (2, .int (zI ((v : Int))))] [] σ
  refine V_iconst C d_md_setIn_0 ?_
  refine V_istore_n (lv' := [(3, _), (0, _), (1, _), (2, _)]) C d_md_setIn_1 (by decide) rfl ?_
  refine V_iconst C d_md_setIn_2 ?_
  refine V_istore (lv' := [(4, _), (3, _), (0, _), (1, _), (2, _)]) C d_md_setIn_3 (by decide) rfl ?_
  refine V_sub (lv' := [(4, _), (3, _), (0, _), (1, _), (2, _)]) [0, 1, 2, 3, 4] rfl ?_
  refine loopUp (n := n) (P := fun i => V p l e rm_md_setIn u m args below meth c 5 w LL CC 0 0 (MQ below (zQi w LL CC (((siF p0 v n : Nat) : Int)) (σ) u.heap.size) args u 0 0 (zA w LL.1 u.heap.size)) 5 [(4, .int (zI ((i : Int)))), (3, .int (zI (((siF p0 v i : Nat) : Int)))), (0, .ref (w.1 32)), (1, .int (zI ((p0 : Int)))), (2, .int (zI ((v : Int))))] [] (σ)) (fun i hii ihi => ?_) 0 (Nat.zero_le _)
  show V p l e rm_md_setIn u m args below meth c 5 w LL CC 0 0 (MQ below (zQi w LL CC (((siF p0 v n : Nat) : Int)) (σ) u.heap.size) args u 0 0 (zA w LL.1 u.heap.size)) 5 [(4, .int (zI ((i : Int)))), (3, .int (zI (((siF p0 v i : Nat) : Int)))), (0, .ref (w.1 32)), (1, .int (zI ((p0 : Int)))), (2, .int (zI ((v : Int))))] [] (σ)
  refine V_iload C d_md_setIn_5 0 rfl ?_
  refine V_aload_n C d_md_setIn_7 2 rfl ?_
  refine V_geti C 32 0 (by decide) rfl rfl in_md (by decide) rfl wd_454 d_md_setIn_8 ?_
  refine V_ti hn ?_
  refine V_cmpge C 41 d_md_setIn_11 (by decide) ⟨by omega, by omega⟩ ⟨by omega, by omega⟩ (fun he => ?_) (fun he => ?_)
  · have hin : i = n := by omega
    subst hin
    refine V_iload_n C d_md_setIn_41 1 rfl ?_
    exact V_iret C hr d_md_setIn_42 rfl rfl
  · have hin : i < n := by omega
    have hd4 : dg p0 i < 4 := Nat.mod_lt _ (by decide)
    refine V_iload_n C d_md_setIn_14 1 rfl ?_
    refine V_iload_n C d_md_setIn_15 3 rfl ?_
    refine V_iload C d_md_setIn_16 0 rfl ?_
    refine V_callSi C (c_md_digit l w σ p0 i hp (by omega)) wd_632 wd_633 wd_7 wd_634 o_md_digit ⟨rfl, rfl, Nat.le_of_ble_eq_true rfl, Nat.le_of_ble_eq_true rfl⟩ rfl rfl (Nat.le_of_ble_eq_true rfl) d_md_setIn_18 ⟨Nat.zero_le _, Nat.zero_le _⟩ ?_
    refine V_iload_n C d_md_setIn_21 4 rfl ?_
    refine V_cmpne C 32 d_md_setIn_22 (by decide) ⟨by omega, by omega⟩ ⟨by omega, by omega⟩ (fun g1 => ?_) (fun g1 => ?_)
    · refine V_iconst C d_md_setIn_32 ?_
      refine V_ior C (((siF p0 v i ||| 0 : Nat) : Int)) d_md_setIn_33 (zI_or _ 0) ?_
      rw [Nat.or_zero]
      refine V_istore_n (lv' := [(3, _), (4, _), (0, _), (1, _), (2, _)]) C d_md_setIn_34 (by decide) rfl ?_
      refine V_iinc (lv' := [(4, _), (3, _), (0, _), (1, _), (2, _)]) C d_md_setIn_35 1 rfl (by decide) rfl ?_
      refine V_goto C 5 d_md_setIn_38 (by decide) ?_
      refine V_sub (lv' := [(4, _), (3, _), (0, _), (1, _), (2, _)]) [0, 1, 2, 3, 4] rfl ?_
      have h99 := ihi hin
      first | (rw [siF_f (by omega)] at h99; exact h99) | (rw [siF_t (by omega)] at h99; exact h99)
    · refine V_iconst C d_md_setIn_25 ?_
      refine V_iload C d_md_setIn_26 0 rfl ?_
      refine V_ishl C (((2 ^ i : Nat) : Int)) d_md_setIn_28 (zI_shl1 (by omega)) ?_
      refine V_goto C 33 d_md_setIn_29 (by decide) ?_
      refine V_ior C (((wi (siF p0 v i) i : Nat) : Int)) d_md_setIn_33 zI_wi ?_
      refine V_istore_n (lv' := [(3, _), (4, _), (0, _), (1, _), (2, _)]) C d_md_setIn_34 (by decide) rfl ?_
      refine V_iinc (lv' := [(4, _), (3, _), (0, _), (1, _), (2, _)]) C d_md_setIn_35 1 rfl (by decide) rfl ?_
      refine V_goto C 5 d_md_setIn_38 (by decide) ?_
      refine V_sub (lv' := [(4, _), (3, _), (0, _), (1, _), (2, _)]) [0, 1, 2, 3, 4] rfl ?_
      have h99 := ihi hin
      first | (rw [siF_f (by omega)] at h99; exact h99) | (rw [siF_t (by omega)] at h99; exact h99)

set_option maxRecDepth 20000 in
set_option maxHeartbeats 4000000 in
theorem c_md_costOf (l : Launch) (w : zW) (σ : Nat → Nat → Int) (n nv : Nat) (hM : mI σ n nv) (h46 : bd σ 46 384 (-1) 150000) (p0 : Nat) (hp : p0 < 2 ^ 31) (r : Int) (hr0 : rI r) : zMl l w LL CC g_md_costOf rm_md_costOf [.ref (w.1 32), .int (zI ((p0 : Int))), .int (zI (r))] σ (coF σ n nv p0 r) (σ) := by
  refine zMl.of g_md_costOf (by decide +kernel) (Nat.le_of_ble_eq_true rfl) rfl ?_
  intro p e u m args below meth c C hr
  have C : zC p u m args meth c prog_7_method_23_code 7 "RoundPlansModel" w LL CC := C
  have hr : meth.sig.returnType = (some .long) := hr
  obtain ⟨hn, hn7, hv, hv3, h33, h34, h35, h36, h37, h38, h39, h40, h41, h42, h43, h44, h45⟩ := id hM
  show V p l e rm_md_costOf u m args below meth c 7 w LL CC 0 0 (MQ below (zQl w LL CC (coF σ n nv p0 r) (σ) u.heap.size) args u 0 0 (zA w LL.1 u.heap.size)) 0 [(0, .ref (w.1 32)), (1, .int (zI ((p0 : Int)))), (2, .int (zI (r)))] [] σ
  refine V_iconst C d_md_costOf_0 ?_
  refine V_istore_n (lv' := [(3, _), (0, _), (1, _), (2, _)]) C d_md_costOf_1 (by decide) rfl ?_
  refine V_sub (lv' := [(3, _), (0, _), (1, _), (2, _)]) [0, 1, 2, 3] rfl ?_
  refine loopUp (n := 7) (P := fun k => vlF n nv p0 k = true → V p l e rm_md_costOf u m args below meth c 7 w LL CC 0 0 (MQ below (zQl w LL CC (coF σ n nv p0 r) (σ) u.heap.size) args u 0 0 (zA w LL.1 u.heap.size)) 2 [(3, .int (zI (k : Int))), (0, .ref (w.1 32)), (1, .int (zI (p0 : Int))), (2, .int (zI r))] [] σ) (fun k hik ihk => ?_) 0 (Nat.zero_le _) rfl
  intro hvl
  show V p l e rm_md_costOf u m args below meth c 7 w LL CC 0 0 (MQ below (zQl w LL CC (coF σ n nv p0 r) (σ) u.heap.size) args u 0 0 (zA w LL.1 u.heap.size)) 2 [(3, .int (zI (k : Int))), (0, .ref (w.1 32)), (1, .int (zI (p0 : Int))), (2, .int (zI r))] [] σ
  refine V_iload_n C d_md_costOf_2 0 rfl ?_
  refine V_bipush C d_md_costOf_3 (by decide) ?_
  refine V_cmpge C 56 d_md_costOf_5 (by decide) ⟨by omega, by omega⟩ ⟨by omega, by omega⟩ (fun he => ?_) (fun he => ?_)
  · have hk7 : k = 7 := by omega
    subst hk7
    refine V_lconst C 0 d_md_costOf_56 rfl ?_
    refine V_lstore_n (lv' := [(3, _), (0, _), (1, _), (2, _)]) C d_md_costOf_57 (by decide) rfl ?_
    refine V_iconst C d_md_costOf_58 ?_
    refine V_istore (lv' := [(5, _), (3, _), (0, _), (1, _), (2, _)]) C d_md_costOf_59 (by decide) rfl ?_
    refine V_sub (lv' := [(5, _), (3, _), (0, _), (1, _), (2, _)]) [0, 1, 2, 3, 4] rfl ?_
    refine loopUp (n := n) (P := fun i => V p l e rm_md_costOf u m args below meth c 7 w LL CC 0 0 (MQ below (zQl w LL CC (coF σ n nv p0 r) (σ) u.heap.size) args u 0 0 (zA w LL.1 u.heap.size)) 61 [(5, .int (zI ((i : Int)))), (3, .long (zL (pcF σ p0 i))), (0, .ref (w.1 32)), (1, .int (zI ((p0 : Int)))), (2, .int (zI (r)))] [] (σ)) (fun i hii ihi => ?_) 0 (Nat.zero_le _)
    show V p l e rm_md_costOf u m args below meth c 7 w LL CC 0 0 (MQ below (zQl w LL CC (coF σ n nv p0 r) (σ) u.heap.size) args u 0 0 (zA w LL.1 u.heap.size)) 61 [(5, .int (zI ((i : Int)))), (3, .long (zL (pcF σ p0 i))), (0, .ref (w.1 32)), (1, .int (zI ((p0 : Int)))), (2, .int (zI (r)))] [] (σ)
    refine V_iload C d_md_costOf_61 0 rfl ?_
    refine V_aload_n C d_md_costOf_63 2 rfl ?_
    refine V_geti C 32 0 (by decide) rfl rfl in_md (by decide) rfl wd_454 d_md_costOf_64 ?_
    refine V_ti hn ?_
    refine V_cmpge C 100 d_md_costOf_67 (by decide) ⟨by omega, by omega⟩ ⟨by omega, by omega⟩ (fun hf => ?_) (fun hf => ?_)
    · have hin : i = n := by omega
      rw [hin]
      refine V_iconst C d_md_costOf_100 ?_
      refine V_istore (lv' := [(5, _), (3, _), (0, _), (1, _), (2, _)]) C d_md_costOf_101 (by decide) rfl ?_
      refine V_sub (lv' := [(5, _), (3, _), (0, _), (1, _), (2, _)]) [0, 1, 2, 3, 4] rfl ?_
      refine loopUp (n := nv) (P := fun v => ∀ c0, vcF σ n p0 r v = some c0 → V p l e rm_md_costOf u m args below meth c 7 w LL CC 0 0 (MQ below (zQl w LL CC (coF σ n nv p0 r) (σ) u.heap.size) args u 0 0 (zA w LL.1 u.heap.size)) 103 [(5, .int (zI (v : Int))), (3, .long (zL c0)), (0, .ref (w.1 32)), (1, .int (zI (p0 : Int))), (2, .int (zI r))] [] σ) (fun v hiv ihv => ?_) 0 (Nat.zero_le _) (pcF σ p0 n) rfl
      intro c0 hc0
      have hcb := vcF_bd hM h46 v (by omega) c0 hc0
      show V p l e rm_md_costOf u m args below meth c 7 w LL CC 0 0 (MQ below (zQl w LL CC (coF σ n nv p0 r) (σ) u.heap.size) args u 0 0 (zA w LL.1 u.heap.size)) 103 [(5, .int (zI (v : Int))), (3, .long (zL c0)), (0, .ref (w.1 32)), (1, .int (zI (p0 : Int))), (2, .int (zI r))] [] σ
      refine V_iload C d_md_costOf_103 0 rfl ?_
      refine V_aload_n C d_md_costOf_105 2 rfl ?_
      refine V_geti C 32 9 (by decide) rfl rfl in_md (by decide) rfl wd_463 d_md_costOf_106 ?_
      refine V_ti hv ?_
      refine V_cmpge C 194 d_md_costOf_109 (by decide) ⟨by omega, by omega⟩ ⟨by omega, by omega⟩ (fun hg => ?_) (fun hg => ?_)
      · have hvv : v = nv := by omega
        subst hvv
        refine V_lload_n C d_md_costOf_194 1 rfl ?_
        exact V_lret C hr d_md_costOf_195 (by unfold coF; rw [if_pos hvl, hc0]) rfl
      · have hvv : v < nv := by omega
        have hs := siF_lt (p := p0) (v := v) hn7
        have a46 := h46 (128 * v + siF p0 v n) (by omega)
        have a42 := h42 v (by omega)
        have a44 := h44 v (by omega)
        refine V_aload_n C d_md_costOf_112 2 rfl ?_
        refine V_iload_n C d_md_costOf_113 3 rfl ?_
        refine V_iload C d_md_costOf_114 0 rfl ?_
        refine V_callVi C 32 (by decide) rfl rfl (c_md_setIn l w σ n hn hn7 p0 v hp (by omega)) wd_636 wd_638 ws_22 wd_7 wd_639 o_md_setIn ⟨rfl, rfl, Nat.le_of_ble_eq_true rfl, Nat.le_of_ble_eq_true rfl⟩ rfl rfl (Nat.le_of_ble_eq_true rfl) d_md_costOf_116 ⟨Nat.zero_le _, Nat.zero_le _⟩ ?_
        refine V_istore (lv' := [(6, _), (5, _), (3, _), (0, _), (1, _), (2, _)]) C d_md_costOf_119 (by decide) rfl ?_
        refine V_iload C d_md_costOf_121 0 rfl ?_
        refine V_ifeq C 188 d_md_costOf_123 (by decide) ⟨by omega, by omega⟩ (fun g6 => ?_) (fun g6 => ?_)
        · refine V_iinc (lv' := [(5, _), (6, _), (3, _), (0, _), (1, _), (2, _)]) C d_md_costOf_188 1 rfl (by decide) rfl ?_
          refine V_goto C 103 d_md_costOf_191 (by decide) ?_
          refine V_sub (lv' := [(5, _), (3, _), (0, _), (1, _), (2, _)]) [0, 2, 3, 4, 5] rfl ?_
          first | exact ihv hvv _ (vcF_0 hc0 (by omega)) | exact ihv hvv _ (vcF_y hc0 (by omega) (by omega))
        · refine V_iload C d_md_costOf_126 1 rfl ?_
          refine V_iload_n C d_md_costOf_128 5 rfl ?_
          refine V_cmpeq C 149 d_md_costOf_129 (by decide) ⟨by omega, by omega⟩ hr0 (fun g7 => ?_) (fun g7 => ?_)
          · refine V_ldc2 C (-1) d_md_costOf_149 (by rw [show zL (-1) = (-1 : Int64) by decide]; exact wd_635) ?_
            exact V_lret C hr d_md_costOf_152 (by unfold coF; rw [if_pos hvl, vcF_no (vcF_x hc0 (by omega) (by omega)) nv hvv]) rfl
          · refine V_aload_n C d_md_costOf_132 3 rfl ?_
            refine V_getr C 32 15 46 (by decide) rfl rfl in_md (by decide) rfl wd_469 d_md_costOf_133 ?_
            refine V_sipush C d_md_costOf_136 (by decide) ?_
            refine V_iload C d_md_costOf_139 1 rfl ?_
            refine V_imul C d_md_costOf_141 ?_
            refine V_iload C d_md_costOf_142 0 rfl ?_
            refine V_iadd C d_md_costOf_144 ?_
            refine V_iald C 46 (128 * v + siF p0 v n) (by decide) rfl (by omega) (by omega) (by decide) d_md_costOf_145 ?_
            refine V_ifge C 153 d_md_costOf_146 (by decide) ⟨by omega, by omega⟩ (fun g8 => ?_) (fun g8 => ?_)
            · refine V_lload_n C d_md_costOf_153 2 rfl ?_
              refine V_aload_n C d_md_costOf_154 3 rfl ?_
              refine V_getr C 32 13 44 (by decide) rfl rfl in_md (by decide) rfl wd_467 d_md_costOf_155 ?_
              refine V_iload C d_md_costOf_158 1 rfl ?_
              refine V_iald C 44 _ (by decide) rfl rfl (by omega) (by decide) d_md_costOf_160 ?_
              refine V_i2l C d_md_costOf_161 ⟨by omega, by omega⟩ ?_
              refine V_aload_n C d_md_costOf_162 3 rfl ?_
              refine V_getr C 32 15 46 (by decide) rfl rfl in_md (by decide) rfl wd_469 d_md_costOf_163 ?_
              refine V_sipush C d_md_costOf_166 (by decide) ?_
              refine V_iload C d_md_costOf_169 1 rfl ?_
              refine V_imul C d_md_costOf_171 ?_
              refine V_iload C d_md_costOf_172 0 rfl ?_
              refine V_iadd C d_md_costOf_174 ?_
              refine V_iald C 46 (128 * v + siF p0 v n) (by decide) rfl (by omega) (by omega) (by decide) d_md_costOf_175 ?_
              refine V_aload_n C d_md_costOf_176 3 rfl ?_
              refine V_getr C 32 11 42 (by decide) rfl rfl in_md (by decide) rfl wd_465 d_md_costOf_177 ?_
              refine V_iload C d_md_costOf_180 1 rfl ?_
              refine V_iald C 42 _ (by decide) rfl rfl (by omega) (by decide) d_md_costOf_182 ?_
              refine V_isub C d_md_costOf_183 ?_
              refine V_i2l C d_md_costOf_184 ⟨by omega, by omega⟩ ?_
              refine V_lmul C d_md_costOf_185 ?_
              refine V_ladd C d_md_costOf_186 ?_
              refine V_lstore_n (lv' := [(3, _), (6, _), (5, _), (0, _), (1, _), (2, _)]) C d_md_costOf_187 (by decide) rfl ?_
              refine V_iinc (lv' := [(5, _), (3, _), (6, _), (0, _), (1, _), (2, _)]) C d_md_costOf_188 2 rfl (by decide) rfl ?_
              refine V_goto C 103 d_md_costOf_191 (by decide) ?_
              refine V_sub (lv' := [(5, _), (3, _), (0, _), (1, _), (2, _)]) [0, 1, 3, 4, 5] rfl ?_
              first | exact ihv hvv _ (vcF_0 hc0 (by omega)) | exact ihv hvv _ (vcF_y hc0 (by omega) (by omega))
            · refine V_ldc2 C (-1) d_md_costOf_149 (by rw [show zL (-1) = (-1 : Int64) by decide]; exact wd_635) ?_
              exact V_lret C hr d_md_costOf_152 (by unfold coF; rw [if_pos hvl, vcF_no (vcF_x hc0 (by omega) (by omega)) nv hvv]) rfl
    · have hin : i < n := by omega
      have hd4 : dg p0 i < 4 := Nat.mod_lt _ (by decide)
      refine V_lload_n C d_md_costOf_70 1 rfl ?_
      refine V_iload_n C d_md_costOf_71 3 rfl ?_
      refine V_iload C d_md_costOf_72 0 rfl ?_
      refine V_callSi C (c_md_digit l w σ p0 i hp (by omega)) wd_632 wd_633 wd_7 wd_634 o_md_digit ⟨rfl, rfl, Nat.le_of_ble_eq_true rfl, Nat.le_of_ble_eq_true rfl⟩ rfl rfl (Nat.le_of_ble_eq_true rfl) d_md_costOf_74 ⟨Nat.zero_le _, Nat.zero_le _⟩ ?_
      refine V_iconst C d_md_costOf_77 ?_
      refine V_cmpne C 91 d_md_costOf_78 (by decide) ⟨by omega, by omega⟩ ⟨by omega, by omega⟩ (fun g5 => ?_) (fun g5 => ?_)
      · refine V_lconst C 0 d_md_costOf_91 rfl ?_
        refine V_tl (b := (if dg p0 i = 3 then σ 37 i else 0)) (by first | (rw [if_pos (by omega)]) | (rw [if_neg (by omega)])) ?_
        refine V_ladd C d_md_costOf_92 ?_
        refine V_lstore_n (lv' := [(3, _), (5, _), (0, _), (1, _), (2, _)]) C d_md_costOf_93 (by decide) rfl ?_
        refine V_iinc (lv' := [(5, _), (3, _), (0, _), (1, _), (2, _)]) C d_md_costOf_94 1 rfl (by decide) rfl ?_
        refine V_goto C 61 d_md_costOf_97 (by decide) ?_
        refine V_sub (lv' := [(5, _), (3, _), (0, _), (1, _), (2, _)]) [0, 1, 2, 3, 4] rfl ?_
        exact ihi hin
      · refine V_aload_n C d_md_costOf_81 2 rfl ?_
        refine V_getr C 32 5 37 (by decide) rfl rfl in_md (by decide) rfl wd_459 d_md_costOf_82 ?_
        refine V_iload C d_md_costOf_85 0 rfl ?_
        refine V_lald C 37 _ (by decide) rfl rfl (by omega) (by decide) d_md_costOf_87 ?_
        refine V_goto C 92 d_md_costOf_88 (by decide) ?_
        refine V_tl (b := (if dg p0 i = 3 then σ 37 i else 0)) (by first | (rw [if_pos (by omega)]) | (rw [if_neg (by omega)])) ?_
        refine V_ladd C d_md_costOf_92 ?_
        refine V_lstore_n (lv' := [(3, _), (5, _), (0, _), (1, _), (2, _)]) C d_md_costOf_93 (by decide) rfl ?_
        refine V_iinc (lv' := [(5, _), (3, _), (0, _), (1, _), (2, _)]) C d_md_costOf_94 1 rfl (by decide) rfl ?_
        refine V_goto C 61 d_md_costOf_97 (by decide) ?_
        refine V_sub (lv' := [(5, _), (3, _), (0, _), (1, _), (2, _)]) [0, 1, 2, 3, 4] rfl ?_
        exact ihi hin
  · have hk7 : k < 7 := by omega
    have hd4 : dg p0 k < 4 := Nat.mod_lt _ (by decide)
    refine V_iload_n C d_md_costOf_8 2 rfl ?_
    refine V_iload_n C d_md_costOf_9 0 rfl ?_
    refine V_callSi C (c_md_digit l w σ p0 k hp (by omega)) wd_632 wd_633 wd_7 wd_634 o_md_digit ⟨rfl, rfl, Nat.le_of_ble_eq_true rfl, Nat.le_of_ble_eq_true rfl⟩ rfl rfl (Nat.le_of_ble_eq_true rfl) d_md_costOf_10 ⟨Nat.zero_le _, Nat.zero_le _⟩ ?_
    refine V_istore (lv' := [(4, _), (3, _), (0, _), (1, _), (2, _)]) C d_md_costOf_13 (by decide) rfl ?_
    refine V_iload_n C d_md_costOf_15 1 rfl ?_
    refine V_aload_n C d_md_costOf_16 2 rfl ?_
    refine V_geti C 32 0 (by decide) rfl rfl in_md (by decide) rfl wd_454 d_md_costOf_17 ?_
    refine V_ti hn ?_
    refine V_cmplt C 31 d_md_costOf_20 (by decide) ⟨by omega, by omega⟩ ⟨by omega, by omega⟩ (fun g1 => ?_) (fun g1 => ?_)
    · refine V_iload C d_md_costOf_31 0 rfl ?_
      refine V_iconst C d_md_costOf_33 ?_
      refine V_cmpge C 50 d_md_costOf_34 (by decide) ⟨by omega, by omega⟩ ⟨by omega, by omega⟩ (fun g3 => ?_) (fun g3 => ?_)
      · refine V_iinc (lv' := [(3, _), (4, _), (0, _), (1, _), (2, _)]) C d_md_costOf_50 1 rfl (by decide) rfl ?_
        refine V_goto C 2 d_md_costOf_53 (by decide) ?_
        refine V_sub (lv' := [(3, _), (0, _), (1, _), (2, _)]) [0, 2, 3, 4] rfl ?_
        exact ihk hk7 (vlF_ok hvl (by omega))
      · refine V_iload C d_md_costOf_37 0 rfl ?_
        refine V_aload_n C d_md_costOf_39 2 rfl ?_
        refine V_geti C 32 9 (by decide) rfl rfl in_md (by decide) rfl wd_463 d_md_costOf_40 ?_
        refine V_ti hv ?_
        refine V_cmplt C 50 d_md_costOf_43 (by decide) ⟨by omega, by omega⟩ ⟨by omega, by omega⟩ (fun g4 => ?_) (fun g4 => ?_)
        · refine V_iinc (lv' := [(3, _), (4, _), (0, _), (1, _), (2, _)]) C d_md_costOf_50 1 rfl (by decide) rfl ?_
          refine V_goto C 2 d_md_costOf_53 (by decide) ?_
          refine V_sub (lv' := [(3, _), (0, _), (1, _), (2, _)]) [0, 2, 3, 4] rfl ?_
          exact ihk hk7 (vlF_ok hvl (by omega))
        · refine V_ldc2 C (-1) d_md_costOf_46 (by rw [show zL (-1) = (-1 : Int64) by decide]; exact wd_635) ?_
          exact V_lret C hr d_md_costOf_49 (by unfold coF; rw [if_neg (vlF_no (vlF_bad (k := k) (by omega)) 7 (by omega))]) rfl
    · refine V_iload C d_md_costOf_23 0 rfl ?_
      refine V_ifle C 50 d_md_costOf_25 (by decide) ⟨by omega, by omega⟩ (fun g2 => ?_) (fun g2 => ?_)
      · refine V_iinc (lv' := [(3, _), (4, _), (0, _), (1, _), (2, _)]) C d_md_costOf_50 1 rfl (by decide) rfl ?_
        refine V_goto C 2 d_md_costOf_53 (by decide) ?_
        refine V_sub (lv' := [(3, _), (0, _), (1, _), (2, _)]) [0, 2, 3, 4] rfl ?_
        exact ihk hk7 (vlF_ok hvl (by omega))
      · refine V_goto C 46 d_md_costOf_28 (by decide) ?_
        refine V_ldc2 C (-1) d_md_costOf_46 (by rw [show zL (-1) = (-1 : Int64) by decide]; exact wd_635) ?_
        exact V_lret C hr d_md_costOf_49 (by unfold coF; rw [if_neg (vlF_no (vlF_bad (k := k) (by omega)) 7 (by omega))]) rfl

set_option maxRecDepth 20000 in
set_option maxHeartbeats 4000000 in
theorem c_md_bestPlan (l : Launch) (w : zW) (σ : Nat → Nat → Int) (n nv : Nat) (hM : mI σ n nv) (h46 : bd σ 46 384 (-1) 150000) (r : Int) (hr0 : rI r) : zMi l w LL CC g_md_bestPlan rm_md_bestPlan [.ref (w.1 32), .int (zI (r))] σ ((bpF σ n nv r 16384).1) (σ) := by
  refine zMi.of g_md_bestPlan (by decide +kernel) (Nat.le_of_ble_eq_true rfl) rfl ?_
  intro p e u m args below meth c C hr
  have C : zC p u m args meth c prog_7_method_24_code 8 "RoundPlansModel" w LL CC := C
  have hr : meth.sig.returnType = (some .int) := hr
  obtain ⟨hn, hn7, hv, hv3, h33, h34, h35, h36, h37, h38, h39, h40, h41, h42, h43, h44, h45⟩ := id hM
  show V p l e rm_md_bestPlan u m args below meth c 8 w LL CC 0 0 (MQ below (zQi w LL CC ((bpF σ n nv r 16384).1) (σ) u.heap.size) args u 0 0 (zA w LL.1 u.heap.size)) 0 [(0, .ref (w.1 32)), (1, .int (zI (r)))] [] σ
  refine V_iconst C d_md_bestPlan_0 ?_
  refine V_istore_n (lv' := [(2, _), (0, _), (1, _)]) C d_md_bestPlan_1 (by decide) rfl ?_
  refine V_lconst C 0 d_md_bestPlan_2 rfl ?_
  refine V_lstore_n (lv' := [(3, _), (2, _), (0, _), (1, _)]) C d_md_bestPlan_3 (by decide) rfl ?_
  refine V_iconst C d_md_bestPlan_4 ?_
  refine V_istore (lv' := [(5, _), (3, _), (2, _), (0, _), (1, _)]) C d_md_bestPlan_5 (by decide) rfl ?_
  refine V_sub (lv' := [(5, _), (3, _), (2, _), (0, _), (1, _)]) [0, 1, 2, 3, 4] rfl ?_
  refine loopUp (n := 16384) (P := fun k => V p l e rm_md_bestPlan u m args below meth c 8 w LL CC 0 0 (MQ below (zQi w LL CC ((bpF σ n nv r 16384).1) (σ) u.heap.size) args u 0 0 (zA w LL.1 u.heap.size)) 7 [(5, .int (zI ((k : Int)))), (3, .long (zL ((bpF σ n nv r k).2))), (2, .int (zI ((bpF σ n nv r k).1))), (0, .ref (w.1 32)), (1, .int (zI (r)))] [] (σ)) (fun k hik ihk => ?_) 0 (Nat.zero_le _)
  show V p l e rm_md_bestPlan u m args below meth c 8 w LL CC 0 0 (MQ below (zQi w LL CC ((bpF σ n nv r 16384).1) (σ) u.heap.size) args u 0 0 (zA w LL.1 u.heap.size)) 7 [(5, .int (zI ((k : Int)))), (3, .long (zL ((bpF σ n nv r k).2))), (2, .int (zI ((bpF σ n nv r k).1))), (0, .ref (w.1 32)), (1, .int (zI (r)))] [] (σ)
  refine V_iload C d_md_bestPlan_7 0 rfl ?_
  refine V_sipush C d_md_bestPlan_9 (by decide) ?_
  refine V_cmpge C 54 d_md_bestPlan_12 (by decide) ⟨by omega, by omega⟩ ⟨by omega, by omega⟩ (fun he => ?_) (fun he => ?_)
  · have hk : k = 16384 := by omega
    subst hk
    refine V_iload_n C d_md_bestPlan_54 2 rfl ?_
    exact V_iret C hr d_md_bestPlan_55 rfl rfl
  · have hk : k < 16384 := by omega
    have q1 := bpF_bd (r := r) hM h46 k
    have q2 := bpF_bd2 (r := r) hM h46 k
    have q3 := coF_bd (p := k) (r := r) hM h46
    refine V_aload_n C d_md_bestPlan_15 3 rfl ?_
    refine V_iload C d_md_bestPlan_16 0 rfl ?_
    refine V_iload_n C d_md_bestPlan_18 4 rfl ?_
    refine V_callVl C 32 (by decide) rfl rfl (c_md_costOf l w σ n nv hM h46 k (by omega) r hr0) wd_628 wd_630 ws_21 wd_7 wd_631 o_md_costOf ⟨rfl, rfl, Nat.le_of_ble_eq_true rfl, Nat.le_of_ble_eq_true rfl⟩ rfl rfl (Nat.le_of_ble_eq_true rfl) d_md_bestPlan_19 ⟨Nat.zero_le _, Nat.zero_le _⟩ ?_
    refine V_lstore (lv' := [(6, _), (5, _), (3, _), (2, _), (0, _), (1, _)]) C d_md_bestPlan_22 (by decide) rfl ?_
    refine V_lload C d_md_bestPlan_24 0 rfl ?_
    refine V_lconst C 0 d_md_bestPlan_26 rfl ?_
    refine V_lcmp C d_md_bestPlan_27 ⟨by omega, by omega⟩ ⟨by omega, by omega⟩ ?_
    refine V_iflt C 48 d_md_bestPlan_28 (by decide) (by split; exact rI_1; split; exact rI_0; exact ⟨by decide, by decide⟩) (fun g1 => ?_) (fun g1 => ?_)
    · have g1 : coF σ n nv k r < 0 := by split at g1; omega; split at g1 <;> omega
      refine V_iinc (lv' := [(5, _), (6, _), (3, _), (2, _), (0, _), (1, _)]) C d_md_bestPlan_48 1 rfl (by decide) rfl ?_
      refine V_goto C 7 d_md_bestPlan_51 (by decide) ?_
      refine V_sub (lv' := [(5, _), (3, _), (2, _), (0, _), (1, _)]) [0, 2, 3, 4, 5] rfl ?_
      have h99 := ihk hk
      first | (rw [bpF_f (k := k) (by omega)] at h99; exact h99) | (rw [bpF_t (k := k) (by omega)] at h99; exact h99)
    · have g1 : 0 ≤ coF σ n nv k r := by split at g1; omega; split at g1 <;> omega
      refine V_iload_n C d_md_bestPlan_31 3 rfl ?_
      refine V_iflt C 42 d_md_bestPlan_32 (by decide) ⟨by omega, by omega⟩ (fun g2 => ?_) (fun g2 => ?_)
      · refine V_iload C d_md_bestPlan_42 1 rfl ?_
        refine V_istore_n (lv' := [(2, _), (6, _), (5, _), (3, _), (0, _), (1, _)]) C d_md_bestPlan_44 (by decide) rfl ?_
        refine V_lload C d_md_bestPlan_45 1 rfl ?_
        refine V_lstore_n (lv' := [(3, _), (2, _), (6, _), (5, _), (0, _), (1, _)]) C d_md_bestPlan_47 (by decide) rfl ?_
        refine V_iinc (lv' := [(5, _), (3, _), (2, _), (6, _), (0, _), (1, _)]) C d_md_bestPlan_48 3 rfl (by decide) rfl ?_
        refine V_goto C 7 d_md_bestPlan_51 (by decide) ?_
        refine V_sub (lv' := [(5, _), (3, _), (2, _), (0, _), (1, _)]) [0, 1, 2, 4, 5] rfl ?_
        have h99 := ihk hk
        first | (rw [bpF_f (k := k) (by omega)] at h99; exact h99) | (rw [bpF_t (k := k) (by omega)] at h99; exact h99)
      · refine V_lload C d_md_bestPlan_35 0 rfl ?_
        refine V_lload_n C d_md_bestPlan_37 2 rfl ?_
        refine V_lcmp C d_md_bestPlan_38 ⟨by omega, by omega⟩ ⟨by omega, by omega⟩ ?_
        refine V_ifge C 48 d_md_bestPlan_39 (by decide) (by split; exact rI_1; split; exact rI_0; exact ⟨by decide, by decide⟩) (fun g3 => ?_) (fun g3 => ?_)
        · have g3 : (bpF σ n nv r k).2 ≤ coF σ n nv k r := by split at g3; omega; split at g3 <;> omega
          refine V_iinc (lv' := [(5, _), (6, _), (3, _), (2, _), (0, _), (1, _)]) C d_md_bestPlan_48 1 rfl (by decide) rfl ?_
          refine V_goto C 7 d_md_bestPlan_51 (by decide) ?_
          refine V_sub (lv' := [(5, _), (3, _), (2, _), (0, _), (1, _)]) [0, 2, 3, 4, 5] rfl ?_
          have h99 := ihk hk
          first | (rw [bpF_f (k := k) (by omega)] at h99; exact h99) | (rw [bpF_t (k := k) (by omega)] at h99; exact h99)
        · have g3 : coF σ n nv k r < (bpF σ n nv r k).2 := by split at g3; omega; split at g3 <;> omega
          refine V_iload C d_md_bestPlan_42 1 rfl ?_
          refine V_istore_n (lv' := [(2, _), (6, _), (5, _), (3, _), (0, _), (1, _)]) C d_md_bestPlan_44 (by decide) rfl ?_
          refine V_lload C d_md_bestPlan_45 1 rfl ?_
          refine V_lstore_n (lv' := [(3, _), (2, _), (6, _), (5, _), (0, _), (1, _)]) C d_md_bestPlan_47 (by decide) rfl ?_
          refine V_iinc (lv' := [(5, _), (3, _), (2, _), (6, _), (0, _), (1, _)]) C d_md_bestPlan_48 3 rfl (by decide) rfl ?_
          refine V_goto C 7 d_md_bestPlan_51 (by decide) ?_
          refine V_sub (lv' := [(5, _), (3, _), (2, _), (0, _), (1, _)]) [0, 1, 2, 4, 5] rfl ?_
          have h99 := ihk hk
          first | (rw [bpF_f (k := k) (by omega)] at h99; exact h99) | (rw [bpF_t (k := k) (by omega)] at h99; exact h99)
