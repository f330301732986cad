/-! Rounds: latest, first in time, drive; Found: note -/
set_option maxRecDepth 20000 in
set_option maxHeartbeats 4000000 in
theorem c_rd_findLatestAt (l : Launch) (w : zW) (σ : Nat → Nat → Int) (n nv : Nat) (hT : tI σ n nv) (hL : bd σ 20 896 (-1) 86399) (P s : Nat) (B : Int) (hP : P < 128) (hs : s < n) (hB : 0 ≤ B ∧ B ≤ 1073741824) : zMi l w LL CC g_rd_findLatestAt rm_rd_findLatestAt [.ref (w.1 17), .int (zI ((P : Int))), .int (zI ((s : Int))), .int (zI (B))] σ (ltG σ n P s B) (σ) := by
  refine zMi.of g_rd_findLatestAt (by decide +kernel) (Nat.le_of_ble_eq_true rfl) rfl ?_
  intro p e u m args below meth c C hr
  have C : zC p u m args meth c prog_4_method_10_code 8 "RoundPlans$Rounds" w LL CC := C
  have hr : meth.sig.returnType = (some .int) := hr
  obtain ⟨hn, hn7, hv, hv3, h2, h3, h4, h5, h6, h7, h8, h9, h10, h11, h12, h13, h14, h15, h16⟩ := id hT
  have hw := wo_128 hP (show s < 7 by omega)
  show V p l e rm_rd_findLatestAt u m args below meth c 8 w LL CC 0 0 (MQ below (zQi w LL CC (ltG σ n P s B) (σ) u.heap.size) args u 0 0 (zA w LL.1 u.heap.size)) 0 [(0, .ref (w.1 17)), (1, .int (zI ((P : Int)))), (2, .int (zI ((s : Int)))), (3, .int (zI (B)))] [] σ
  refine V_iload_n C d_rd_findLatestAt_0 1 rfl ?_
  refine V_iload_n C d_rd_findLatestAt_1 2 rfl ?_
  refine V_callNi C (c_rp_without l w σ P s hP (by omega)) ns_5 wd_278 wd_1 wd_279 o_rp_without ⟨rfl, rfl, Nat.le_of_ble_eq_true rfl, Nat.le_of_ble_eq_true rfl⟩ rfl rfl (Nat.le_of_ble_eq_true rfl) d_rd_findLatestAt_2 ⟨Nat.zero_le _, Nat.zero_le _⟩ ?_
  refine V_istore (lv' := [(4, _), (0, _), (1, _), (2, _), (3, _)]) C d_rd_findLatestAt_5 (by decide) rfl ?_
  refine V_aload_n C d_rd_findLatestAt_7 1 rfl ?_
  refine V_getr C 17 0 1 (by decide) rfl rfl in_rd (by decide) rfl wd_119 d_rd_findLatestAt_8 ?_
  refine V_getr C 1 9 9 (by decide) rfl rfl in_td (by decide) rfl wd_59 d_rd_findLatestAt_11 ?_
  refine V_iload_n C d_rd_findLatestAt_14 3 rfl ?_
  refine V_iald C 9 _ (by decide) rfl rfl (by omega) (by decide) d_rd_findLatestAt_15 ?_
  refine V_ti (b := (((σ 9 s).toNat : Nat) : Int)) (by have := h9 s (by omega); omega) ?_
  refine V_iload C d_rd_findLatestAt_16 0 rfl ?_
  refine V_iand C ((((σ 9 s).toNat &&& wo P s : Nat) : Int)) d_rd_findLatestAt_18 (zI_and _ _) ?_
  have ha8 : (σ 9 s).toNat &&& wo P s ≤ wo P s := Nat.and_le_right
  refine V_ifeq C 24 d_rd_findLatestAt_19 (by decide) ⟨by omega, by omega⟩ (fun f1 => ?_) (fun f1 => ?_)
  · refine V_iload C d_rd_findLatestAt_24 0 rfl ?_
    refine V_ifne C 44 d_rd_findLatestAt_26 (by decide) ⟨by omega, by omega⟩ (fun f0 => ?_) (fun f0 => ?_)
    · refine V_iconst C d_rd_findLatestAt_44 ?_
      refine V_ti (b := if wo P s = 0 then B - wyS σ s 7 else -1) (by first | (rw [if_pos (by omega)]; rfl) | (rw [if_neg (by omega)])) ?_
      refine V_istore (lv' := [(5, _), (4, _), (0, _), (1, _), (2, _), (3, _)]) C d_rd_findLatestAt_45 (by decide) rfl ?_
      refine V_iconst C d_rd_findLatestAt_47 ?_
      refine V_istore (lv' := [(6, _), (5, _), (4, _), (0, _), (1, _), (2, _), (3, _)]) C d_rd_findLatestAt_48 (by decide) rfl ?_
      refine V_sub (lv' := [(6, _), (5, _), (4, _), (0, _), (1, _), (2, _), (3, _)]) [0, 1, 2, 3, 4, 5, 6] rfl ?_
      refine loopUp (n := n) (P := fun i => V p l e rm_rd_findLatestAt u m args below meth c 8 w LL CC 0 0 (MQ below (zQi w LL CC (ltG σ n P s B) (σ) u.heap.size) args u 0 0 (zA w LL.1 u.heap.size)) 50 [(6, .int (zI ((i : Int)))), (5, .int (zI (lvG σ P s B i))), (4, .int (zI (((wo P s : Nat) : Int)))), (0, .ref (w.1 17)), (1, .int (zI ((P : Int)))), (2, .int (zI ((s : Int)))), (3, .int (zI (B)))] [] (σ)) (fun i hii ihi => ?_) 0 (Nat.zero_le _)
      show V p l e rm_rd_findLatestAt u m args below meth c 8 w LL CC 0 0 (MQ below (zQi w LL CC (ltG σ n P s B) (σ) u.heap.size) args u 0 0 (zA w LL.1 u.heap.size)) 50 [(6, .int (zI ((i : Int)))), (5, .int (zI (lvG σ P s B i))), (4, .int (zI (((wo P s : Nat) : Int)))), (0, .ref (w.1 17)), (1, .int (zI ((P : Int)))), (2, .int (zI ((s : Int)))), (3, .int (zI (B)))] [] (σ)
      refine V_iload C d_rd_findLatestAt_50 0 rfl ?_
      refine V_aload_n C d_rd_findLatestAt_52 3 rfl ?_
      refine V_getr C 17 0 1 (by decide) rfl rfl in_rd (by decide) rfl wd_119 d_rd_findLatestAt_53 ?_
      refine V_geti C 1 0 (by decide) rfl rfl in_td (by decide) rfl wd_32 d_rd_findLatestAt_56 ?_
      refine V_ti hn ?_
      refine V_cmpge C 113 d_rd_findLatestAt_59 (by decide) ⟨by omega, by omega⟩ ⟨by omega, by omega⟩ (fun he => ?_) (fun he => ?_)
      · have hin : i = n := by omega
        subst hin
        have q0 := lvG_bd hT hL hB hP (show s < 7 by omega) i (by omega)
        have q5 := h5 s (by omega)
        have q3 := h3 s (by omega)
        have q4 := h4 s (by omega)
        refine V_iload C d_rd_findLatestAt_113 1 rfl ?_
        refine V_aload_n C d_rd_findLatestAt_115 3 rfl ?_
        refine V_getr C 17 0 1 (by decide) rfl rfl in_rd (by decide) rfl wd_119 d_rd_findLatestAt_116 ?_
        refine V_getr C 1 5 5 (by decide) rfl rfl in_td (by decide) rfl wd_49 d_rd_findLatestAt_119 ?_
        refine V_iload_n C d_rd_findLatestAt_122 5 rfl ?_
        refine V_iald C 5 _ (by decide) rfl rfl (by omega) (by decide) d_rd_findLatestAt_123 ?_
        refine V_isub C d_rd_findLatestAt_124 ?_
        refine V_istore (lv' := [(6, _), (5, _), (4, _), (0, _), (1, _), (2, _), (3, _)]) C d_rd_findLatestAt_125 (by decide) rfl ?_
        refine V_iload C d_rd_findLatestAt_127 0 rfl ?_
        refine V_aload_n C d_rd_findLatestAt_129 3 rfl ?_
        refine V_getr C 17 0 1 (by decide) rfl rfl in_rd (by decide) rfl wd_119 d_rd_findLatestAt_130 ?_
        refine V_getr C 1 3 3 (by decide) rfl rfl in_td (by decide) rfl wd_43 d_rd_findLatestAt_133 ?_
        refine V_iload_n C d_rd_findLatestAt_136 5 rfl ?_
        refine V_iald C 3 _ (by decide) rfl rfl (by omega) (by decide) d_rd_findLatestAt_137 ?_
        refine V_cmpge C 145 d_rd_findLatestAt_138 (by decide) ⟨by omega, by omega⟩ ⟨by omega, by omega⟩ (fun f2 => ?_) (fun f2 => ?_)
        · refine V_iload C d_rd_findLatestAt_145 0 rfl ?_
          refine V_aload_n C d_rd_findLatestAt_147 3 rfl ?_
          refine V_getr C 17 0 1 (by decide) rfl rfl in_rd (by decide) rfl wd_119 d_rd_findLatestAt_148 ?_
          refine V_getr C 1 4 4 (by decide) rfl rfl in_td (by decide) rfl wd_46 d_rd_findLatestAt_151 ?_
          refine V_iload_n C d_rd_findLatestAt_154 5 rfl ?_
          refine V_iald C 4 _ (by decide) rfl rfl (by omega) (by decide) d_rd_findLatestAt_155 ?_
          refine V_imin C wd_319 wd_320 wd_8 wd_321 (Nat.le_of_ble_eq_true rfl) (Nat.le_of_ble_eq_true rfl) (Nat.zero_le _) (Nat.zero_le _) ⟨by omega, by omega⟩ ⟨by omega, by omega⟩ d_rd_findLatestAt_156 ?_
          exact V_iret C hr d_rd_findLatestAt_159 (by unfold ltG; first | rw [if_neg (by omega), if_neg (by omega)] | rw [if_neg (by omega), if_pos (by omega)]) rfl
        · refine V_iconst C d_rd_findLatestAt_141 ?_
          refine V_goto C 159 d_rd_findLatestAt_142 (by decide) ?_
          exact V_iret C hr d_rd_findLatestAt_159 (by unfold ltG; first | rw [if_neg (by omega), if_neg (by omega)] | rw [if_neg (by omega), if_pos (by omega)]) rfl
      · have hin : i < n := by omega
        refine V_iload C d_rd_findLatestAt_62 2 rfl ?_
        refine V_iload C d_rd_findLatestAt_64 0 rfl ?_
        refine V_callNi C (c_rp_holds l w σ (wo P s) i hw (by omega)) ns_4 wd_285 wd_1 wd_286 o_rp_holds ⟨rfl, rfl, Nat.le_of_ble_eq_true rfl, Nat.le_of_ble_eq_true rfl⟩ rfl rfl (Nat.le_of_ble_eq_true rfl) d_rd_findLatestAt_66 ⟨Nat.zero_le _, Nat.zero_le _⟩ ?_
        refine V_ifeqB C 107 d_rd_findLatestAt_69 (by decide) (fun hb => ?_) (fun hb => ?_)
        · refine V_iinc (lv' := [(6, _), (5, _), (4, _), (0, _), (1, _), (2, _), (3, _)]) C d_rd_findLatestAt_107 0 rfl (by decide) rfl ?_
          refine V_goto C 50 d_rd_findLatestAt_110 (by decide) ?_
          refine V_sub (lv' := [(6, _), (5, _), (4, _), (0, _), (1, _), (2, _), (3, _)]) [0, 1, 2, 3, 4, 5, 6] rfl ?_
          have h99 := ihi hin
          first | (rw [lvG_f hb] at h99; exact h99) | (rw [lvG_t hb] at h99; exact h99)
        · refine V_aload_n C d_rd_findLatestAt_72 3 rfl ?_
          refine V_getr C 17 3 20 (by decide) rfl rfl in_rd (by decide) rfl wd_122 d_rd_findLatestAt_73 ?_
          refine V_iload C d_rd_findLatestAt_76 2 rfl ?_
          refine V_bipush C d_rd_findLatestAt_78 (by decide) ?_
          refine V_imul C d_rd_findLatestAt_80 ?_
          refine V_iload C d_rd_findLatestAt_81 0 rfl ?_
          refine V_iadd C d_rd_findLatestAt_83 ?_
          refine V_iald C 20 (wo P s * 7 + i) (by decide) rfl (by omega) (by omega) (by decide) d_rd_findLatestAt_84 ?_
          refine V_aload_n C d_rd_findLatestAt_85 3 rfl ?_
          refine V_getr C 17 0 1 (by decide) rfl rfl in_rd (by decide) rfl wd_119 d_rd_findLatestAt_86 ?_
          refine V_iload_n C d_rd_findLatestAt_89 5 rfl ?_
          refine V_iload C d_rd_findLatestAt_90 0 rfl ?_
          refine V_callVi C 1 (by decide) rfl rfl (c_td_seconds l w σ s i (by omega) (by omega)) wd_315 wd_316 wd_317 wd_2 wd_318 o_td_seconds ⟨rfl, rfl, Nat.le_of_ble_eq_true rfl, Nat.le_of_ble_eq_true rfl⟩ rfl rfl (Nat.le_of_ble_eq_true rfl) d_rd_findLatestAt_92 ⟨Nat.zero_le _, Nat.zero_le _⟩ ?_
          refine V_isub C d_rd_findLatestAt_95 ?_
          refine V_istore (lv' := [(7, _), (6, _), (5, _), (4, _), (0, _), (1, _), (2, _), (3, _)]) C d_rd_findLatestAt_96 (by decide) rfl ?_
          refine V_iload C d_rd_findLatestAt_98 2 rfl ?_
          refine V_iload C d_rd_findLatestAt_100 0 rfl ?_
          have q0 := lvG_bd hT hL hB hP (show s < 7 by omega) i (by omega)
          have q1 := hL (wo P s * 7 + i) (by omega)
          have q2 := h16 (s * 8 + i) (by omega)
          refine V_imax C wd_322 wd_323 wd_8 wd_324 (Nat.le_of_ble_eq_true rfl) (Nat.le_of_ble_eq_true rfl) (Nat.zero_le _) (Nat.zero_le _) ⟨by omega, by omega⟩ ⟨by omega, by omega⟩ d_rd_findLatestAt_102 ?_
          refine V_istore (lv' := [(5, _), (7, _), (6, _), (4, _), (0, _), (1, _), (2, _), (3, _)]) C d_rd_findLatestAt_105 (by decide) rfl ?_
          refine V_iinc (lv' := [(6, _), (5, _), (7, _), (4, _), (0, _), (1, _), (2, _), (3, _)]) C d_rd_findLatestAt_107 2 rfl (by decide) rfl ?_
          refine V_goto C 50 d_rd_findLatestAt_110 (by decide) ?_
          refine V_sub (lv' := [(6, _), (5, _), (4, _), (0, _), (1, _), (2, _), (3, _)]) [0, 1, 3, 4, 5, 6, 7] rfl ?_
          have h99 := ihi hin
          first | (rw [lvG_f hb] at h99; exact h99) | (rw [lvG_t hb] at h99; exact h99)
    · refine V_iload_n C d_rd_findLatestAt_29 4 rfl ?_
      refine V_aload_n C d_rd_findLatestAt_30 1 rfl ?_
      refine V_getr C 17 0 1 (by decide) rfl rfl in_rd (by decide) rfl wd_119 d_rd_findLatestAt_31 ?_
      refine V_iload_n C d_rd_findLatestAt_34 3 rfl ?_
      refine V_bipush C d_rd_findLatestAt_35 (by decide) ?_
      refine V_callVi C 1 (by decide) rfl rfl (c_td_seconds l w σ s 7 (by omega) (by omega)) wd_315 wd_316 wd_317 wd_2 wd_318 o_td_seconds ⟨rfl, rfl, Nat.le_of_ble_eq_true rfl, Nat.le_of_ble_eq_true rfl⟩ rfl rfl (Nat.le_of_ble_eq_true rfl) d_rd_findLatestAt_37 ⟨Nat.zero_le _, Nat.zero_le _⟩ ?_
      refine V_isub C d_rd_findLatestAt_40 ?_
      refine V_goto C 45 d_rd_findLatestAt_41 (by decide) ?_
      refine V_ti (b := if wo P s = 0 then B - wyS σ s 7 else -1) (by first | (rw [if_pos (by omega)]; rfl) | (rw [if_neg (by omega)])) ?_
      refine V_istore (lv' := [(5, _), (4, _), (0, _), (1, _), (2, _), (3, _)]) C d_rd_findLatestAt_45 (by decide) rfl ?_
      refine V_iconst C d_rd_findLatestAt_47 ?_
      refine V_istore (lv' := [(6, _), (5, _), (4, _), (0, _), (1, _), (2, _), (3, _)]) C d_rd_findLatestAt_48 (by decide) rfl ?_
      refine V_sub (lv' := [(6, _), (5, _), (4, _), (0, _), (1, _), (2, _), (3, _)]) [0, 1, 2, 3, 4, 5, 6] rfl ?_
      refine loopUp (n := n) (P := fun i => V p l e rm_rd_findLatestAt u m args below meth c 8 w LL CC 0 0 (MQ below (zQi w LL CC (ltG σ n P s B) (σ) u.heap.size) args u 0 0 (zA w LL.1 u.heap.size)) 50 [(6, .int (zI ((i : Int)))), (5, .int (zI (lvG σ P s B i))), (4, .int (zI (((wo P s : Nat) : Int)))), (0, .ref (w.1 17)), (1, .int (zI ((P : Int)))), (2, .int (zI ((s : Int)))), (3, .int (zI (B)))] [] (σ)) (fun i hii ihi => ?_) 0 (Nat.zero_le _)
      show V p l e rm_rd_findLatestAt u m args below meth c 8 w LL CC 0 0 (MQ below (zQi w LL CC (ltG σ n P s B) (σ) u.heap.size) args u 0 0 (zA w LL.1 u.heap.size)) 50 [(6, .int (zI ((i : Int)))), (5, .int (zI (lvG σ P s B i))), (4, .int (zI (((wo P s : Nat) : Int)))), (0, .ref (w.1 17)), (1, .int (zI ((P : Int)))), (2, .int (zI ((s : Int)))), (3, .int (zI (B)))] [] (σ)
      refine V_iload C d_rd_findLatestAt_50 0 rfl ?_
      refine V_aload_n C d_rd_findLatestAt_52 3 rfl ?_
      refine V_getr C 17 0 1 (by decide) rfl rfl in_rd (by decide) rfl wd_119 d_rd_findLatestAt_53 ?_
      refine V_geti C 1 0 (by decide) rfl rfl in_td (by decide) rfl wd_32 d_rd_findLatestAt_56 ?_
      refine V_ti hn ?_
      refine V_cmpge C 113 d_rd_findLatestAt_59 (by decide) ⟨by omega, by omega⟩ ⟨by omega, by omega⟩ (fun he => ?_) (fun he => ?_)
      · have hin : i = n := by omega
        subst hin
        have q0 := lvG_bd hT hL hB hP (show s < 7 by omega) i (by omega)
        have q5 := h5 s (by omega)
        have q3 := h3 s (by omega)
        have q4 := h4 s (by omega)
        refine V_iload C d_rd_findLatestAt_113 1 rfl ?_
        refine V_aload_n C d_rd_findLatestAt_115 3 rfl ?_
        refine V_getr C 17 0 1 (by decide) rfl rfl in_rd (by decide) rfl wd_119 d_rd_findLatestAt_116 ?_
        refine V_getr C 1 5 5 (by decide) rfl rfl in_td (by decide) rfl wd_49 d_rd_findLatestAt_119 ?_
        refine V_iload_n C d_rd_findLatestAt_122 5 rfl ?_
        refine V_iald C 5 _ (by decide) rfl rfl (by omega) (by decide) d_rd_findLatestAt_123 ?_
        refine V_isub C d_rd_findLatestAt_124 ?_
        refine V_istore (lv' := [(6, _), (5, _), (4, _), (0, _), (1, _), (2, _), (3, _)]) C d_rd_findLatestAt_125 (by decide) rfl ?_
        refine V_iload C d_rd_findLatestAt_127 0 rfl ?_
        refine V_aload_n C d_rd_findLatestAt_129 3 rfl ?_
        refine V_getr C 17 0 1 (by decide) rfl rfl in_rd (by decide) rfl wd_119 d_rd_findLatestAt_130 ?_
        refine V_getr C 1 3 3 (by decide) rfl rfl in_td (by decide) rfl wd_43 d_rd_findLatestAt_133 ?_
        refine V_iload_n C d_rd_findLatestAt_136 5 rfl ?_
        refine V_iald C 3 _ (by decide) rfl rfl (by omega) (by decide) d_rd_findLatestAt_137 ?_
        refine V_cmpge C 145 d_rd_findLatestAt_138 (by decide) ⟨by omega, by omega⟩ ⟨by omega, by omega⟩ (fun f2 => ?_) (fun f2 => ?_)
        · refine V_iload C d_rd_findLatestAt_145 0 rfl ?_
          refine V_aload_n C d_rd_findLatestAt_147 3 rfl ?_
          refine V_getr C 17 0 1 (by decide) rfl rfl in_rd (by decide) rfl wd_119 d_rd_findLatestAt_148 ?_
          refine V_getr C 1 4 4 (by decide) rfl rfl in_td (by decide) rfl wd_46 d_rd_findLatestAt_151 ?_
          refine V_iload_n C d_rd_findLatestAt_154 5 rfl ?_
          refine V_iald C 4 _ (by decide) rfl rfl (by omega) (by decide) d_rd_findLatestAt_155 ?_
          refine V_imin C wd_319 wd_320 wd_8 wd_321 (Nat.le_of_ble_eq_true rfl) (Nat.le_of_ble_eq_true rfl) (Nat.zero_le _) (Nat.zero_le _) ⟨by omega, by omega⟩ ⟨by omega, by omega⟩ d_rd_findLatestAt_156 ?_
          exact V_iret C hr d_rd_findLatestAt_159 (by unfold ltG; first | rw [if_neg (by omega), if_neg (by omega)] | rw [if_neg (by omega), if_pos (by omega)]) rfl
        · refine V_iconst C d_rd_findLatestAt_141 ?_
          refine V_goto C 159 d_rd_findLatestAt_142 (by decide) ?_
          exact V_iret C hr d_rd_findLatestAt_159 (by unfold ltG; first | rw [if_neg (by omega), if_neg (by omega)] | rw [if_neg (by omega), if_pos (by omega)]) rfl
      · have hin : i < n := by omega
        refine V_iload C d_rd_findLatestAt_62 2 rfl ?_
        refine V_iload C d_rd_findLatestAt_64 0 rfl ?_
        refine V_callNi C (c_rp_holds l w σ (wo P s) i hw (by omega)) ns_4 wd_285 wd_1 wd_286 o_rp_holds ⟨rfl, rfl, Nat.le_of_ble_eq_true rfl, Nat.le_of_ble_eq_true rfl⟩ rfl rfl (Nat.le_of_ble_eq_true rfl) d_rd_findLatestAt_66 ⟨Nat.zero_le _, Nat.zero_le _⟩ ?_
        refine V_ifeqB C 107 d_rd_findLatestAt_69 (by decide) (fun hb => ?_) (fun hb => ?_)
        · refine V_iinc (lv' := [(6, _), (5, _), (4, _), (0, _), (1, _), (2, _), (3, _)]) C d_rd_findLatestAt_107 0 rfl (by decide) rfl ?_
          refine V_goto C 50 d_rd_findLatestAt_110 (by decide) ?_
          refine V_sub (lv' := [(6, _), (5, _), (4, _), (0, _), (1, _), (2, _), (3, _)]) [0, 1, 2, 3, 4, 5, 6] rfl ?_
          have h99 := ihi hin
          first | (rw [lvG_f hb] at h99; exact h99) | (rw [lvG_t hb] at h99; exact h99)
        · refine V_aload_n C d_rd_findLatestAt_72 3 rfl ?_
          refine V_getr C 17 3 20 (by decide) rfl rfl in_rd (by decide) rfl wd_122 d_rd_findLatestAt_73 ?_
          refine V_iload C d_rd_findLatestAt_76 2 rfl ?_
          refine V_bipush C d_rd_findLatestAt_78 (by decide) ?_
          refine V_imul C d_rd_findLatestAt_80 ?_
          refine V_iload C d_rd_findLatestAt_81 0 rfl ?_
          refine V_iadd C d_rd_findLatestAt_83 ?_
          refine V_iald C 20 (wo P s * 7 + i) (by decide) rfl (by omega) (by omega) (by decide) d_rd_findLatestAt_84 ?_
          refine V_aload_n C d_rd_findLatestAt_85 3 rfl ?_
          refine V_getr C 17 0 1 (by decide) rfl rfl in_rd (by decide) rfl wd_119 d_rd_findLatestAt_86 ?_
          refine V_iload_n C d_rd_findLatestAt_89 5 rfl ?_
          refine V_iload C d_rd_findLatestAt_90 0 rfl ?_
          refine V_callVi C 1 (by decide) rfl rfl (c_td_seconds l w σ s i (by omega) (by omega)) wd_315 wd_316 wd_317 wd_2 wd_318 o_td_seconds ⟨rfl, rfl, Nat.le_of_ble_eq_true rfl, Nat.le_of_ble_eq_true rfl⟩ rfl rfl (Nat.le_of_ble_eq_true rfl) d_rd_findLatestAt_92 ⟨Nat.zero_le _, Nat.zero_le _⟩ ?_
          refine V_isub C d_rd_findLatestAt_95 ?_
          refine V_istore (lv' := [(7, _), (6, _), (5, _), (4, _), (0, _), (1, _), (2, _), (3, _)]) C d_rd_findLatestAt_96 (by decide) rfl ?_
          refine V_iload C d_rd_findLatestAt_98 2 rfl ?_
          refine V_iload C d_rd_findLatestAt_100 0 rfl ?_
          have q0 := lvG_bd hT hL hB hP (show s < 7 by omega) i (by omega)
          have q1 := hL (wo P s * 7 + i) (by omega)
          have q2 := h16 (s * 8 + i) (by omega)
          refine V_imax C wd_322 wd_323 wd_8 wd_324 (Nat.le_of_ble_eq_true rfl) (Nat.le_of_ble_eq_true rfl) (Nat.zero_le _) (Nat.zero_le _) ⟨by omega, by omega⟩ ⟨by omega, by omega⟩ d_rd_findLatestAt_102 ?_
          refine V_istore (lv' := [(5, _), (7, _), (6, _), (4, _), (0, _), (1, _), (2, _), (3, _)]) C d_rd_findLatestAt_105 (by decide) rfl ?_
          refine V_iinc (lv' := [(6, _), (5, _), (7, _), (4, _), (0, _), (1, _), (2, _), (3, _)]) C d_rd_findLatestAt_107 2 rfl (by decide) rfl ?_
          refine V_goto C 50 d_rd_findLatestAt_110 (by decide) ?_
          refine V_sub (lv' := [(6, _), (5, _), (4, _), (0, _), (1, _), (2, _), (3, _)]) [0, 1, 3, 4, 5, 6, 7] rfl ?_
          have h99 := ihi hin
          first | (rw [lvG_f hb] at h99; exact h99) | (rw [lvG_t hb] at h99; exact h99)
  · refine V_iconst C d_rd_findLatestAt_22 ?_
    exact V_iret C hr d_rd_findLatestAt_23 (by unfold ltG; rw [if_pos (by omega)]) rfl

set_option maxRecDepth 20000 in
set_option maxHeartbeats 4000000 in
theorem c_rd_findLatest (l : Launch) (w : zW) (σ : Nat → Nat → Int) (n nv : Nat) (hT : tI σ n nv) (hL : bd σ 20 896 (-1) 86399) (S : Nat) (B : Int) (hS : S < 128) (hB : 0 ≤ B ∧ B ≤ 1073741824) : zMv l w LL CC g_rd_findLatest rm_rd_findLatest [.ref (w.1 17), .int (zI ((S : Int))), .int (zI (B))] σ (ltO σ n S B S) := by
  refine zMv.of g_rd_findLatest (by decide +kernel) (Nat.le_of_ble_eq_true rfl) rfl ?_
  intro p e u m args below meth c C hr
  have C : zC p u m args meth c prog_4_method_9_code 5 "RoundPlans$Rounds" w LL CC := C
  have hr : meth.sig.returnType = none := hr
  obtain ⟨hn, hn7, hv, hv3, h2, h3, h4, h5, h6, h7, h8, h9, h10, h11, h12, h13, h14, h15, h16⟩ := id hT
  show V p l e rm_rd_findLatest u m args below meth c 5 w LL CC 0 0 (MQ below (zQv w LL CC (ltO σ n S B S) u.heap.size) args u 0 0 (zA w LL.1 u.heap.size)) 0 [(0, .ref (w.1 17)), (1, .int (zI ((S : Int)))), (2, .int (zI (B)))] [] σ
  refine V_iconst C d_rd_findLatest_0 ?_
  refine V_istore_n (lv' := [(3, _), (0, _), (1, _), (2, _)]) C d_rd_findLatest_1 (by decide) rfl ?_
  refine V_sub (lv' := [(3, _), (0, _), (1, _), (2, _)]) [0, 1, 2, 3] rfl ?_
  refine loopUp (n := S) (P := fun j => V p l e rm_rd_findLatest u m args below meth c 5 w LL CC 0 0 (MQ below (zQv w LL CC (ltO σ n S B S) u.heap.size) args u 0 0 (zA w LL.1 u.heap.size)) 2 [(3, .int (zI (((j + 1 : Nat) : Int)))), (0, .ref (w.1 17)), (1, .int (zI ((S : Int)))), (2, .int (zI (B)))] [] (ltO σ n S B j)) (fun j hij ihj => ?_) 0 (Nat.zero_le _)
  show V p l e rm_rd_findLatest u m args below meth c 5 w LL CC 0 0 (MQ below (zQv w LL CC (ltO σ n S B S) u.heap.size) args u 0 0 (zA w LL.1 u.heap.size)) 2 [(3, .int (zI (((j + 1 : Nat) : Int)))), (0, .ref (w.1 17)), (1, .int (zI ((S : Int)))), (2, .int (zI (B)))] [] (ltO σ n S B j)
  refine V_iload_n C d_rd_findLatest_2 0 rfl ?_
  refine V_iload_n C d_rd_findLatest_3 2 rfl ?_
  refine V_cmpgt C 71 d_rd_findLatest_4 (by decide) ⟨by omega, by omega⟩ ⟨by omega, by omega⟩ (fun hj => ?_) (fun hj => ?_)
  · have hjj : j = S := by omega
    exact V_vret C hr d_rd_findLatest_71 (by subst hjj; rfl)
  · have hjn : j < S := by omega
    have hTj : tI (ltO σ n S B j) n nv := hT.congr (fun k hk => ltO_ne (by omega) j)
    have hLj := ltO_bd (S := S) (B := B) hT hL j
    refine V_iconst C d_rd_findLatest_7 ?_
    refine V_istore (lv' := [(4, _), (3, _), (0, _), (1, _), (2, _)]) C d_rd_findLatest_8 (by decide) rfl ?_
    refine V_sub (lv' := [(4, _), (3, _), (0, _), (1, _), (2, _)]) [0, 1, 2, 3, 4] rfl ?_
    refine loopUp (n := n) (P := fun i => V p l e rm_rd_findLatest u m args below meth c 5 w LL CC 0 0 (MQ below (zQv w LL CC (ltO σ n S B S) u.heap.size) args u 0 0 (zA w LL.1 u.heap.size)) 10 [(4, .int (zI ((i : Int)))), (3, .int (zI (((j + 1 : Nat) : Int)))), (0, .ref (w.1 17)), (1, .int (zI ((S : Int)))), (2, .int (zI (B)))] [] (ltS (ltO σ n S B j) n S B (j + 1) i)) (fun i hii ihi => ?_) 0 (Nat.zero_le _)
    show V p l e rm_rd_findLatest u m args below meth c 5 w LL CC 0 0 (MQ below (zQv w LL CC (ltO σ n S B S) u.heap.size) args u 0 0 (zA w LL.1 u.heap.size)) 10 [(4, .int (zI ((i : Int)))), (3, .int (zI (((j + 1 : Nat) : Int)))), (0, .ref (w.1 17)), (1, .int (zI ((S : Int)))), (2, .int (zI (B)))] [] (ltS (ltO σ n S B j) n S B (j + 1) i)
    refine V_iload C d_rd_findLatest_10 0 rfl ?_
    refine V_aload_n C d_rd_findLatest_12 2 rfl ?_
    refine V_getr C 17 0 1 (by decide) rfl rfl in_rd (by decide) rfl wd_119 d_rd_findLatest_13 ?_
    refine V_geti C 1 0 (by decide) rfl rfl in_td (by decide) rfl wd_32 d_rd_findLatest_16 ?_
    refine V_ti (b := (n : Int)) (by rw [ltS_ne (by decide), ltO_ne (by decide)]; exact hn) ?_
    refine V_cmpge C 65 d_rd_findLatest_19 (by decide) ⟨by omega, by omega⟩ ⟨by omega, by omega⟩ (fun he => ?_) (fun he => ?_)
    · have hin : i = n := by omega
      subst hin
      refine V_iinc (lv' := [(3, _), (4, _), (0, _), (1, _), (2, _)]) C d_rd_findLatest_65 1 rfl (by decide) rfl ?_
      refine V_goto C 2 d_rd_findLatest_68 (by decide) ?_
      refine V_sub (lv' := [(3, _), (0, _), (1, _), (2, _)]) [0, 2, 3, 4] rfl ?_
      exact ihj hjn
    · have hin : i < n := by omega
      have hTi : tI (ltS (ltO σ n S B j) n S B (j + 1) i) n nv := hTj.congr (fun k hk => ltS_ne (by omega) i)
      refine V_iload_n C d_rd_findLatest_22 1 rfl ?_
      refine V_iload_n C d_rd_findLatest_23 3 rfl ?_
      refine V_iconst C d_rd_findLatest_24 ?_
      refine V_ixor C (-1 - (S : Int)) d_rd_findLatest_25 (zI_not S hS) ?_
      refine V_iand C (((anb (j + 1) S : Nat) : Int)) d_rd_findLatest_26 (zI_anb (j + 1) (by omega) S hS) ?_
      have ha8 : anb (j + 1) S ≤ j + 1 := Nat.and_le_left
      refine V_ifne C 59 d_rd_findLatest_27 (by decide) ⟨by omega, by omega⟩ (fun g1 => ?_) (fun g1 => ?_)
      · refine V_iinc (lv' := [(4, _), (3, _), (0, _), (1, _), (2, _)]) C d_rd_findLatest_59 0 rfl (by decide) rfl ?_
        refine V_goto C 10 d_rd_findLatest_62 (by decide) ?_
        refine V_sub (lv' := [(4, _), (3, _), (0, _), (1, _), (2, _)]) [0, 1, 2, 3, 4] rfl ?_
        have h99 := ihi hin
        first | (rw [ltS_t (by omega) hb] at h99; exact h99) | (rw [ltS_f (by intro z; first | omega | exact hb z.2)] at h99; exact h99)
      · refine V_iload_n C d_rd_findLatest_30 1 rfl ?_
        refine V_iload C d_rd_findLatest_31 0 rfl ?_
        refine V_callNi C (c_rp_holds l w _ (j + 1) i (by omega) (by omega)) ns_4 wd_285 wd_1 wd_286 o_rp_holds ⟨rfl, rfl, Nat.le_of_ble_eq_true rfl, Nat.le_of_ble_eq_true rfl⟩ rfl rfl (Nat.le_of_ble_eq_true rfl) d_rd_findLatest_33 ⟨Nat.zero_le _, Nat.zero_le _⟩ ?_
        refine V_ifeqB C 59 d_rd_findLatest_36 (by decide) (fun hb => ?_) (fun hb => ?_)
        · refine V_iinc (lv' := [(4, _), (3, _), (0, _), (1, _), (2, _)]) C d_rd_findLatest_59 0 rfl (by decide) rfl ?_
          refine V_goto C 10 d_rd_findLatest_62 (by decide) ?_
          refine V_sub (lv' := [(4, _), (3, _), (0, _), (1, _), (2, _)]) [0, 1, 2, 3, 4] rfl ?_
          have h99 := ihi hin
          first | (rw [ltS_t (by omega) hb] at h99; exact h99) | (rw [ltS_f (by intro z; first | omega | exact hb z.2)] at h99; exact h99)
        · refine V_aload_n C d_rd_findLatest_39 2 rfl ?_
          refine V_getr C 17 3 20 (by decide) rfl rfl in_rd (by decide) rfl wd_122 d_rd_findLatest_40 ?_
          refine V_iload_n C d_rd_findLatest_43 1 rfl ?_
          refine V_bipush C d_rd_findLatest_44 (by decide) ?_
          refine V_imul C d_rd_findLatest_46 ?_
          refine V_iload C d_rd_findLatest_47 0 rfl ?_
          refine V_iadd C d_rd_findLatest_49 ?_
          refine V_aload_n C d_rd_findLatest_50 2 rfl ?_
          refine V_iload_n C d_rd_findLatest_51 1 rfl ?_
          refine V_iload C d_rd_findLatest_52 0 rfl ?_
          refine V_iload_n C d_rd_findLatest_54 4 rfl ?_
          refine V_callVi C 17 (by decide) rfl rfl (c_rd_findLatestAt l w _ n nv hTi (ltS_bd hTj hLj i (by omega)) (j + 1) i B (by omega) hin hB) wd_397 wd_399 ws_9 wd_4 wd_400 o_rd_findLatestAt ⟨rfl, rfl, Nat.le_of_ble_eq_true rfl, Nat.le_of_ble_eq_true rfl⟩ rfl rfl (Nat.le_of_ble_eq_true rfl) d_rd_findLatest_55 ⟨Nat.zero_le _, Nat.zero_le _⟩ ?_
          refine V_ti (ltS_lt hn7 hb i) ?_
          refine V_iast C 20 ((j + 1) * 7 + i) (by decide) rfl (by omega) (by omega) (by decide) d_rd_findLatest_58 ?_
          refine V_iinc (lv' := [(4, _), (3, _), (0, _), (1, _), (2, _)]) C d_rd_findLatest_59 0 rfl (by decide) rfl ?_
          refine V_goto C 10 d_rd_findLatest_62 (by decide) ?_
          refine V_sub (lv' := [(4, _), (3, _), (0, _), (1, _), (2, _)]) [0, 1, 2, 3, 4] rfl ?_
          have h99 := ihi hin
          first | (rw [ltS_t (by omega) hb] at h99; exact h99) | (rw [ltS_f (by intro z; first | omega | exact hb z.2)] at h99; exact h99)

set_option maxRecDepth 20000 in
set_option maxHeartbeats 4000000 in
theorem c_rd_firstInTime (l : Launch) (w : zW) (σ : Nat → Nat → Int) (n nv : Nat) (hT : tI σ n nv) (hL : bd σ 20 896 (-1) 86399) (p0 : Nat) (t : Int) (P : Nat) (hp : p0 < 8) (ht : 0 ≤ t ∧ t ≤ 100000) (hP : P < 128) : zMi l w LL CC g_rd_firstInTime rm_rd_firstInTime [.ref (w.1 17), .int (zI ((p0 : Int))), .int (zI (t)), .int (zI ((P : Int)))] σ (fiR σ n p0 t P) (σ) := by
  refine zMi.of g_rd_firstInTime (by decide +kernel) (Nat.le_of_ble_eq_true rfl) rfl ?_
  intro p e u m args below meth c C hr
  have C : zC p u m args meth c prog_4_method_8_code 5 "RoundPlans$Rounds" w LL CC := C
  have hr : meth.sig.returnType = (some .int) := hr
  obtain ⟨hn, hn7, hv, hv3, h2, h3, h4, h5, h6, h7, h8, h9, h10, h11, h12, h13, h14, h15, h16⟩ := id hT
  show V p l e rm_rd_firstInTime u m args below meth c 5 w LL CC 0 0 (MQ below (zQi w LL CC (fiR σ n p0 t P) (σ) u.heap.size) args u 0 0 (zA w LL.1 u.heap.size)) 0 [(0, .ref (w.1 17)), (1, .int (zI ((p0 : Int)))), (2, .int (zI (t))), (3, .int (zI ((P : Int))))] [] σ
  refine V_iconst C d_rd_firstInTime_0 ?_
  refine V_istore (lv' := [(4, _), (0, _), (1, _), (2, _), (3, _)]) C d_rd_firstInTime_1 (by decide) rfl ?_
  refine V_sub (lv' := [(4, _), (0, _), (1, _), (2, _), (3, _)]) [0, 1, 2, 3, 4] rfl ?_
  refine loopUp (n := n) (P := fun i => fsF (fiF σ p0 t P) i = none → V p l e rm_rd_firstInTime u m args below meth c 5 w LL CC 0 0 (MQ below (zQi w LL CC (fiR σ n p0 t P) (σ) u.heap.size) args u 0 0 (zA w LL.1 u.heap.size)) 3 [(4, .int (zI (i : Int))), (0, .ref (w.1 17)), (1, .int (zI (p0 : Int))), (2, .int (zI t)), (3, .int (zI (P : Int)))] [] σ) (fun i hii ihi => ?_) 0 (Nat.zero_le _) rfl
  intro hno
  show V p l e rm_rd_firstInTime u m args below meth c 5 w LL CC 0 0 (MQ below (zQi w LL CC (fiR σ n p0 t P) (σ) u.heap.size) args u 0 0 (zA w LL.1 u.heap.size)) 3 [(4, .int (zI (i : Int))), (0, .ref (w.1 17)), (1, .int (zI (p0 : Int))), (2, .int (zI t)), (3, .int (zI (P : Int)))] [] σ
  refine V_iload C d_rd_firstInTime_3 0 rfl ?_
  refine V_aload_n C d_rd_firstInTime_5 1 rfl ?_
  refine V_getr C 17 0 1 (by decide) rfl rfl in_rd (by decide) rfl wd_119 d_rd_firstInTime_6 ?_
  refine V_geti C 1 0 (by decide) rfl rfl in_td (by decide) rfl wd_32 d_rd_firstInTime_9 ?_
  refine V_ti hn ?_
  refine V_cmpge C 60 d_rd_firstInTime_12 (by decide) ⟨by omega, by omega⟩ ⟨by omega, by omega⟩ (fun he => ?_) (fun he => ?_)
  · have hin : i = n := by omega
    subst hin
    refine V_iconst C d_rd_firstInTime_60 ?_
    exact V_iret C hr d_rd_firstInTime_61 (by unfold fiR; rw [hno]) rfl
  · have hin : i < n := by omega
    refine V_iload_n C d_rd_firstInTime_15 4 rfl ?_
    refine V_iload C d_rd_firstInTime_16 0 rfl ?_
    refine V_callNi C (c_rp_holds l w σ P i hP (by omega)) ns_4 wd_285 wd_1 wd_286 o_rp_holds ⟨rfl, rfl, Nat.le_of_ble_eq_true rfl, Nat.le_of_ble_eq_true rfl⟩ rfl rfl (Nat.le_of_ble_eq_true rfl) d_rd_firstInTime_18 ⟨Nat.zero_le _, Nat.zero_le _⟩ ?_
    refine V_ifeqB C 54 d_rd_firstInTime_21 (by decide) (fun hb => ?_) (fun hb => ?_)
    · refine V_iinc (lv' := [(4, _), (0, _), (1, _), (2, _), (3, _)]) C d_rd_firstInTime_54 0 rfl (by decide) rfl ?_
      refine V_goto C 3 d_rd_firstInTime_57 (by decide) ?_
      refine V_sub (lv' := [(4, _), (0, _), (1, _), (2, _), (3, _)]) [0, 1, 2, 3, 4] rfl ?_
      exact ihi hin (fsF_miss hno (by unfold fiF; intro z; simp only [Bool.and_eq_true, decide_eq_true_eq] at z; first | exact hb z.1 | (have z2 := z.2; unfold wyS at z2; omega)))
    · refine V_iload_n C d_rd_firstInTime_24 3 rfl ?_
      refine V_aload_n C d_rd_firstInTime_25 1 rfl ?_
      refine V_getr C 17 0 1 (by decide) rfl rfl in_rd (by decide) rfl wd_119 d_rd_firstInTime_26 ?_
      refine V_iload_n C d_rd_firstInTime_29 2 rfl ?_
      refine V_iload C d_rd_firstInTime_30 0 rfl ?_
      refine V_callVi C 1 (by decide) rfl rfl (c_td_seconds l w σ p0 i (by omega) (by omega)) wd_315 wd_316 wd_317 wd_2 wd_318 o_td_seconds ⟨rfl, rfl, Nat.le_of_ble_eq_true rfl, Nat.le_of_ble_eq_true rfl⟩ rfl rfl (Nat.le_of_ble_eq_true rfl) d_rd_firstInTime_32 ⟨Nat.zero_le _, Nat.zero_le _⟩ ?_
      refine V_iadd C d_rd_firstInTime_35 ?_
      refine V_aload_n C d_rd_firstInTime_36 1 rfl ?_
      refine V_getr C 17 3 20 (by decide) rfl rfl in_rd (by decide) rfl wd_122 d_rd_firstInTime_37 ?_
      refine V_iload_n C d_rd_firstInTime_40 4 rfl ?_
      refine V_bipush C d_rd_firstInTime_41 (by decide) ?_
      refine V_imul C d_rd_firstInTime_43 ?_
      refine V_iload C d_rd_firstInTime_44 0 rfl ?_
      refine V_iadd C d_rd_firstInTime_46 ?_
      refine V_iald C 20 (P * 7 + i) (by decide) rfl (by omega) (by omega) (by decide) d_rd_firstInTime_47 ?_
      have q1 := hL (P * 7 + i) (by omega)
      have q2 := h16 (p0 * 8 + i) (by omega)
      refine V_cmpgt C 54 d_rd_firstInTime_48 (by decide) ⟨by omega, by omega⟩ ⟨by omega, by omega⟩ (fun g1 => ?_) (fun g1 => ?_)
      · refine V_iinc (lv' := [(4, _), (0, _), (1, _), (2, _), (3, _)]) C d_rd_firstInTime_54 0 rfl (by decide) rfl ?_
        refine V_goto C 3 d_rd_firstInTime_57 (by decide) ?_
        refine V_sub (lv' := [(4, _), (0, _), (1, _), (2, _), (3, _)]) [0, 1, 2, 3, 4] rfl ?_
        exact ihi hin (fsF_miss hno (by unfold fiF; intro z; simp only [Bool.and_eq_true, decide_eq_true_eq] at z; first | exact hb z.1 | (have z2 := z.2; unfold wyS at z2; omega)))
      · refine V_iload C d_rd_firstInTime_51 0 rfl ?_
        exact V_iret C hr d_rd_firstInTime_53 (by unfold fiR; rw [fsF_hit hno hin (by unfold fiF; rw [hb, Bool.true_and]; exact decide_eq_true g1)]) rfl

set_option maxRecDepth 20000 in
set_option maxHeartbeats 4000000 in
theorem c_fd_note (l : Launch) (w : zW) (σ : Nat → Nat → Int) (v s : Nat) (b : Int) (hv : v < 3) (hs : s < 7) (hl : bd σ 29 3 0 7) : zMv l w LL CC g_fd_note rm_fd_note [.ref (w.1 25), .int (zI ((v : Int))), .int (zI ((s : Int))), .int (zI (b))] σ (ntF σ v s b) := by
  refine zMv.of g_fd_note (by decide +kernel) (Nat.le_of_ble_eq_true rfl) rfl ?_
  intro p e u m args below meth c C hr
  have C : zC p u m args meth c prog_2_method_5_code 5 "RoundPlans$Found" w LL CC := C
  have hr : meth.sig.returnType = none := hr
  show V p l e rm_fd_note u m args below meth c 5 w LL CC 0 0 (MQ below (zQv w LL CC (ntF σ v s b) u.heap.size) args u 0 0 (zA w LL.1 u.heap.size)) 0 [(0, .ref (w.1 25)), (1, .int (zI ((v : Int)))), (2, .int (zI ((s : Int)))), (3, .int (zI (b)))] [] σ
  refine V_aload_n C d_fd_note_0 0 rfl ?_
  refine V_getr C 25 6 29 (by decide) rfl rfl in_fd (by decide) rfl wd_171 d_fd_note_1 ?_
  refine V_iload_n C d_fd_note_4 1 rfl ?_
  refine V_iald C 29 _ (by decide) rfl rfl (by omega) (by decide) d_fd_note_5 ?_
  have q := hl v hv
  refine V_istore (lv' := [(4, _), (0, _), (1, _), (2, _), (3, _)]) C d_fd_note_6 (by decide) rfl ?_
  refine V_iload C d_fd_note_8 0 rfl ?_
  refine V_bipush C d_fd_note_10 (by decide) ?_
  refine V_cmplt C 16 d_fd_note_12 (by decide) ⟨by omega, by omega⟩ ⟨by omega, by omega⟩ (fun g1 => ?_) (fun g1 => ?_)
  · refine V_aload_n C d_fd_note_16 1 rfl ?_
    refine V_getr C 25 5 28 (by decide) rfl rfl in_fd (by decide) rfl wd_169 d_fd_note_17 ?_
    refine V_iload_n C d_fd_note_20 2 rfl ?_
    refine V_bipush C d_fd_note_21 (by decide) ?_
    refine V_imul C d_fd_note_23 ?_
    refine V_iload C d_fd_note_24 0 rfl ?_
    refine V_iadd C d_fd_note_26 ?_
    refine V_iload_n C d_fd_note_27 3 rfl ?_
    refine V_iast C 28 (v * 7 + (σ 29 v).toNat) (by decide) rfl (by omega) (by omega) (by decide) d_fd_note_28 ?_
    refine V_aload_n C d_fd_note_29 1 rfl ?_
    refine V_getr C 25 6 29 (by decide) rfl rfl in_fd (by decide) rfl wd_171 d_fd_note_30 ?_
    refine V_iload_n C d_fd_note_33 2 rfl ?_
    refine V_iload C d_fd_note_34 0 rfl ?_
    refine V_iconst C d_fd_note_36 ?_
    refine V_iadd C d_fd_note_37 ?_
    refine V_iast C 29 _ (by decide) rfl rfl (by omega) (by decide) d_fd_note_38 ?_
    refine V_aload_n C d_fd_note_39 1 rfl ?_
    refine V_getr C 25 4 27 (by decide) rfl rfl in_fd (by decide) rfl wd_167 d_fd_note_40 ?_
    refine V_iload_n C d_fd_note_43 3 rfl ?_
    refine V_iload_n C d_fd_note_44 4 rfl ?_
    refine V_iast C 27 _ (by decide) rfl rfl (by omega) (by decide) d_fd_note_45 ?_
    exact V_vret C hr d_fd_note_46 (by unfold ntF; rw [if_neg (by omega)])
  · exact V_vret C hr d_fd_note_15 (by unfold ntF; rw [if_pos (by omega)])

set_option maxRecDepth 20000 in
set_option maxHeartbeats 4000000 in
theorem c_rd_drive (l : Launch) (w : zW) (σ : Nat → Nat → Int) (n nv : Nat) (hT : tI σ n nv) (hL : bd σ 20 896 (-1) 86399) (v S : Nat) (hv0 : v < 3) (hS : S < 128) (h18 : bd σ 18 384 0 1073741824) (h29 : bd σ 29 3 0 7) : zMv l w LL CC g_rd_drive rm_rd_drive [.ref (w.1 17), .int (zI ((v : Int))), .int (zI ((S : Int))), .ref (w.1 25)] σ (dvF n v 7 7 (σ 13 v) S (ltO σ n S (σ 18 (v * 128 + S)) S)) := by
  refine zMv.of g_rd_drive (by decide +kernel) (Nat.le_of_ble_eq_true rfl) rfl ?_
  intro p e u m args below meth c C hr
  have C : zC p u m args meth c prog_4_method_7_code 9 "RoundPlans$Rounds" w LL CC := C
  have hr : meth.sig.returnType = none := hr
  obtain ⟨hn, hn7, hv, hv3, h2, h3, h4, h5, h6, h7, h8, h9, h10, h11, h12, h13, h14, h15, h16⟩ := id hT
  show V p l e rm_rd_drive u m args below meth c 9 w LL CC 0 0 (MQ below (zQv w LL CC (dvF n v 7 7 (σ 13 v) S (ltO σ n S (σ 18 (v * 128 + S)) S)) u.heap.size) args u 0 0 (zA w LL.1 u.heap.size)) 0 [(0, .ref (w.1 17)), (1, .int (zI ((v : Int)))), (2, .int (zI ((S : Int)))), (3, .ref (w.1 25))] [] σ
  refine V_aload_n C d_rd_drive_0 0 rfl ?_
  refine V_iload_n C d_rd_drive_1 2 rfl ?_
  refine V_aload_n C d_rd_drive_2 0 rfl ?_
  refine V_iload_n C d_rd_drive_3 1 rfl ?_
  refine V_iload_n C d_rd_drive_4 2 rfl ?_
  refine V_callVi C 17 (by decide) rfl rfl (c_rd_firstBack l w σ v S hv0 hS) wd_392 wd_347 wd_348 wd_4 wd_349 o_rd_firstBack ⟨rfl, rfl, Nat.le_of_ble_eq_true rfl, Nat.le_of_ble_eq_true rfl⟩ rfl rfl (Nat.le_of_ble_eq_true rfl) d_rd_drive_5 ⟨Nat.zero_le _, Nat.zero_le _⟩ ?_
  refine V_callVv C 17 (by decide) rfl rfl (c_rd_findLatest l w σ n nv hT hL S (σ 18 (v * 128 + S)) hS (h18 (v * 128 + S) (by omega))) wd_393 wd_395 ws_8 wd_4 wd_396 o_rd_findLatest ⟨rfl, rfl, Nat.le_of_ble_eq_true rfl, Nat.le_of_ble_eq_true rfl⟩ rfl rfl (Nat.le_of_ble_eq_true rfl) d_rd_drive_8 ⟨Nat.zero_le _, Nat.zero_le _⟩ ?_
  refine V_bipush C d_rd_drive_11 (by decide) ?_
  refine V_istore (lv' := [(4, _), (0, _), (1, _), (2, _), (3, _)]) C d_rd_drive_13 (by decide) rfl ?_
  refine V_aload_n C d_rd_drive_15 1 rfl ?_
  refine V_getr C 17 0 1 (by decide) rfl rfl in_rd (by decide) rfl wd_119 d_rd_drive_16 ?_
  refine V_getr C 1 13 13 (by decide) rfl rfl in_td (by decide) rfl wd_69 d_rd_drive_19 ?_
  refine V_iload_n C d_rd_drive_22 2 rfl ?_
  refine V_iald C 13 _ (by decide) rfl rfl (by omega) (by decide) d_rd_drive_23 ?_
  refine V_ti (b := σ 13 v) (by rw [ltO_ne (by decide)]) ?_
  refine V_istore (lv' := [(5, _), (4, _), (0, _), (1, _), (2, _), (3, _)]) C d_rd_drive_24 (by decide) rfl ?_
  refine V_iload_n C d_rd_drive_26 4 rfl ?_
  refine V_istore (lv' := [(6, _), (5, _), (4, _), (0, _), (1, _), (2, _), (3, _)]) C d_rd_drive_27 (by decide) rfl ?_
  refine V_iconst C d_rd_drive_29 ?_
  refine V_istore (lv' := [(7, _), (6, _), (5, _), (4, _), (0, _), (1, _), (2, _), (3, _)]) C d_rd_drive_30 (by decide) rfl ?_
  refine V_sub (lv' := [(7, _), (6, _), (5, _), (4, _), (0, _), (1, _), (2, _), (3, _)]) [0, 1, 2, 3, 4, 5, 6, 7] rfl ?_
  refine Nat.strongRecOn (motive := fun f => ∀ (k p0 : Nat) (t : Int) (P : Nat) (τ : Nat → Nat → Int), k + f = 7 → p0 < 8 → 0 ≤ t ∧ t ≤ 100000 → P < 128 → (∀ h, h ≤ 20 → τ h = ltO σ n S (σ 18 (v * 128 + S)) S h) → bd τ 29 3 0 7 → dvF n v f p0 t P τ = dvF n v 7 7 (σ 13 v) S (ltO σ n S (σ 18 (v * 128 + S)) S) → V p l e rm_rd_drive u m args below meth c 9 w LL CC 0 0 (MQ below (zQv w LL CC (dvF n v 7 7 (σ 13 v) S (ltO σ n S (σ 18 (v * 128 + S)) S)) u.heap.size) args u 0 0 (zA w LL.1 u.heap.size)) 32 [(7, .int (zI (k : Int))), (6, .int (zI (P : Int))), (5, .int (zI t)), (4, .int (zI (p0 : Int))), (0, .ref (w.1 17)), (1, .int (zI (v : Int))), (2, .int (zI (S : Int))), (3, .ref (w.1 25))] [] τ) 7 (fun f ihf => ?_) 0 7 (σ 13 v) S _ rfl (by decide) (by have := h13 v hv0; omega) hS (fun _ _ => rfl) (by intro i hi; rw [ltO_ne (by decide)]; exact h29 i hi) rfl
  intro k p0 t P τ hk hp0 ht hP hτ hl hE
  have hTτ : tI τ n nv := hT.congr (fun h hh => by rw [hτ h (by omega), ltO_ne (by omega)])
  have hLτ : bd τ 20 896 (-1) 86399 := by intro i hi; rw [hτ 20 (by decide)]; exact ltO_bd hT hL S i hi
  show V p l e rm_rd_drive u m args below meth c 9 w LL CC 0 0 (MQ below (zQv w LL CC (dvF n v 7 7 (σ 13 v) S (ltO σ n S (σ 18 (v * 128 + S)) S)) u.heap.size) args u 0 0 (zA w LL.1 u.heap.size)) 32 [(7, .int (zI (k : Int))), (6, .int (zI (P : Int))), (5, .int (zI t)), (4, .int (zI (p0 : Int))), (0, .ref (w.1 17)), (1, .int (zI (v : Int))), (2, .int (zI (S : Int))), (3, .ref (w.1 25))] [] τ
  refine V_iload C d_rd_drive_32 0 rfl ?_
  refine V_bipush C d_rd_drive_34 (by decide) ?_
  refine V_cmpge C 135 d_rd_drive_36 (by decide) ⟨by omega, by omega⟩ ⟨by omega, by omega⟩ (fun g7 => ?_) (fun g7 => ?_)
  · have hf0 : f = 0 := by omega
    subst hf0
    refine V_aload_n C d_rd_drive_135 7 rfl ?_
    refine V_getr C 25 7 30 (by decide) rfl rfl in_fd (by decide) rfl wd_174 d_rd_drive_136 ?_
    refine V_iload_n C d_rd_drive_139 5 rfl ?_
    refine V_iload C d_rd_drive_140 2 rfl ?_
    refine V_aload_n C d_rd_drive_142 4 rfl ?_
    refine V_getr C 17 0 1 (by decide) rfl rfl in_rd (by decide) rfl wd_119 d_rd_drive_143 ?_
    refine V_iload C d_rd_drive_146 3 rfl ?_
    refine V_bipush C d_rd_drive_148 (by decide) ?_
    refine V_callVi C 1 (by decide) rfl rfl (c_td_seconds l w τ p0 7 hp0 (by omega)) wd_315 wd_316 wd_317 wd_2 wd_318 o_td_seconds ⟨rfl, rfl, Nat.le_of_ble_eq_true rfl, Nat.le_of_ble_eq_true rfl⟩ rfl rfl (Nat.le_of_ble_eq_true rfl) d_rd_drive_150 ⟨Nat.zero_le _, Nat.zero_le _⟩ ?_
    refine V_ti (b := wyS τ p0 7) rfl ?_
    refine V_iadd C d_rd_drive_153 ?_
    refine V_iast C 30 _ (by decide) rfl rfl (by omega) (by decide) d_rd_drive_154 ?_
    exact V_vret C hr d_rd_drive_155 (by rw [← hE]; first | (rw [dvF, if_pos hP0]) | (rw [dvF]))
  · obtain ⟨f, rfl⟩ : ∃ f1, f = f1 + 1 := ⟨f - 1, by omega⟩
    refine V_iload C d_rd_drive_39 1 rfl ?_
    refine V_ifeq C 135 d_rd_drive_41 (by decide) ⟨by omega, by omega⟩ (fun g0 => ?_) (fun g0 => ?_)
    · have hP0 : P = 0 := by omega
      refine V_aload_n C d_rd_drive_135 7 rfl ?_
      refine V_getr C 25 7 30 (by decide) rfl rfl in_fd (by decide) rfl wd_174 d_rd_drive_136 ?_
      refine V_iload_n C d_rd_drive_139 5 rfl ?_
      refine V_iload C d_rd_drive_140 2 rfl ?_
      refine V_aload_n C d_rd_drive_142 4 rfl ?_
      refine V_getr C 17 0 1 (by decide) rfl rfl in_rd (by decide) rfl wd_119 d_rd_drive_143 ?_
      refine V_iload C d_rd_drive_146 3 rfl ?_
      refine V_bipush C d_rd_drive_148 (by decide) ?_
      refine V_callVi C 1 (by decide) rfl rfl (c_td_seconds l w τ p0 7 hp0 (by omega)) wd_315 wd_316 wd_317 wd_2 wd_318 o_td_seconds ⟨rfl, rfl, Nat.le_of_ble_eq_true rfl, Nat.le_of_ble_eq_true rfl⟩ rfl rfl (Nat.le_of_ble_eq_true rfl) d_rd_drive_150 ⟨Nat.zero_le _, Nat.zero_le _⟩ ?_
      refine V_ti (b := wyS τ p0 7) rfl ?_
      refine V_iadd C d_rd_drive_153 ?_
      refine V_iast C 30 _ (by decide) rfl rfl (by omega) (by decide) d_rd_drive_154 ?_
      exact V_vret C hr d_rd_drive_155 (by rw [← hE]; first | (rw [dvF, if_pos hP0]) | (rw [dvF]))
    · have hP0 : ¬ P = 0 := by omega
      refine V_aload_n C d_rd_drive_44 4 rfl ?_
      refine V_iload C d_rd_drive_45 3 rfl ?_
      refine V_iload C d_rd_drive_47 2 rfl ?_
      refine V_iload C d_rd_drive_49 1 rfl ?_
      refine V_callVi C 17 (by decide) rfl rfl (c_rd_firstInTime l w τ n nv hTτ hLτ p0 t P hp0 ht hP) wd_401 wd_403 ws_10 wd_4 wd_404 o_rd_firstInTime ⟨rfl, rfl, Nat.le_of_ble_eq_true rfl, Nat.le_of_ble_eq_true rfl⟩ rfl rfl (Nat.le_of_ble_eq_true rfl) d_rd_drive_51 ⟨Nat.zero_le _, Nat.zero_le _⟩ ?_
      refine V_istore (lv' := [(8, _), (7, _), (6, _), (5, _), (4, _), (0, _), (1, _), (2, _), (3, _)]) C d_rd_drive_54 (by decide) rfl ?_
      refine V_iload C d_rd_drive_56 0 rfl ?_
      refine V_iconst C d_rd_drive_58 ?_
      refine V_cmpne C 63 d_rd_drive_59 (by decide) (fiR_rI hn7) ⟨by omega, by omega⟩ (fun gN => ?_) (fun gN => ?_)
      · obtain ⟨s, hs⟩ := fiR_some gN
        obtain ⟨hsn, hsb, hle⟩ := fi_ok hs
        have q20 := hLτ (P * 7 + s) (by omega)
        have q16 : 0 ≤ wyS τ p0 s ∧ wyS τ p0 s ≤ 50000 := by unfold wyS; rw [hτ 16 (by decide), ltO_ne (by decide)]; exact h16 _ (by omega)
        have q3 : 0 ≤ τ 3 s ∧ τ 3 s ≤ 86399 := by rw [hτ 3 (by decide), ltO_ne (by decide)]; exact h3 s (by omega)
        have q5 : 0 ≤ τ 5 s ∧ τ 5 s ≤ 10000 := by rw [hτ 5 (by decide), ltO_ne (by decide)]; exact h5 s (by omega)
        rw [show fiR τ n p0 t P = (s : Int) by unfold fiR; rw [hs]]
        refine V_iload C d_rd_drive_63 3 rfl ?_
        refine V_aload_n C d_rd_drive_65 5 rfl ?_
        refine V_getr C 17 0 1 (by decide) rfl rfl in_rd (by decide) rfl wd_119 d_rd_drive_66 ?_
        refine V_iload C d_rd_drive_69 4 rfl ?_
        refine V_iload C d_rd_drive_71 0 rfl ?_
        refine V_callVi C 1 (by decide) rfl rfl (c_td_seconds l w τ p0 s hp0 (by omega)) wd_315 wd_316 wd_317 wd_2 wd_318 o_td_seconds ⟨rfl, rfl, Nat.le_of_ble_eq_true rfl, Nat.le_of_ble_eq_true rfl⟩ rfl rfl (Nat.le_of_ble_eq_true rfl) d_rd_drive_73 ⟨Nat.zero_le _, Nat.zero_le _⟩ ?_
        refine V_ti (b := wyS τ p0 s) rfl ?_
        refine V_iadd C d_rd_drive_76 ?_
        refine V_aload_n C d_rd_drive_77 5 rfl ?_
        refine V_getr C 17 0 1 (by decide) rfl rfl in_rd (by decide) rfl wd_119 d_rd_drive_78 ?_
        refine V_getr C 1 3 3 (by decide) rfl rfl in_td (by decide) rfl wd_43 d_rd_drive_81 ?_
        refine V_iload C d_rd_drive_84 0 rfl ?_
        refine V_iald C 3 _ (by decide) rfl rfl (by omega) (by decide) d_rd_drive_86 ?_
        refine V_imax C wd_322 wd_323 wd_8 wd_324 (Nat.le_of_ble_eq_true rfl) (Nat.le_of_ble_eq_true rfl) (Nat.zero_le _) (Nat.zero_le _) ⟨by omega, by omega⟩ ⟨by omega, by omega⟩ d_rd_drive_87 ?_
        refine V_istore (lv' := [(5, _), (8, _), (7, _), (6, _), (4, _), (0, _), (1, _), (2, _), (3, _)]) C d_rd_drive_90 (by decide) rfl ?_
        refine V_aload_n C d_rd_drive_92 8 rfl ?_
        refine V_iload_n C d_rd_drive_93 6 rfl ?_
        refine V_iload C d_rd_drive_94 1 rfl ?_
        refine V_iload C d_rd_drive_96 0 rfl ?_
        refine V_callVv C 25 (by decide) rfl rfl (c_fd_note l w τ v s (max (t + wyS τ p0 s) (τ 3 s)) hv0 (by omega) hl) wd_405 wd_406 wd_407 wd_6 wd_408 o_fd_note ⟨rfl, rfl, Nat.le_of_ble_eq_true rfl, Nat.le_of_ble_eq_true rfl⟩ rfl rfl (Nat.le_of_ble_eq_true rfl) d_rd_drive_98 ⟨Nat.zero_le _, Nat.zero_le _⟩ ?_
        refine V_iload C d_rd_drive_101 0 rfl ?_
        refine V_aload_n C d_rd_drive_103 5 rfl ?_
        refine V_getr C 17 0 1 (by decide) rfl rfl in_rd (by decide) rfl wd_119 d_rd_drive_104 ?_
        refine V_getr C 1 5 5 (by decide) rfl rfl in_td (by decide) rfl wd_49 d_rd_drive_107 ?_
        refine V_iload C d_rd_drive_110 1 rfl ?_
        refine V_iald C 5 _ (by decide) rfl rfl (by omega) (by decide) d_rd_drive_112 ?_
        refine V_ti (b := τ 5 s) (by rw [ntF_ne (by decide) (by decide) (by decide)]) ?_
        refine V_iadd C d_rd_drive_113 ?_
        refine V_istore (lv' := [(5, _), (8, _), (7, _), (6, _), (4, _), (0, _), (1, _), (2, _), (3, _)]) C d_rd_drive_114 (by decide) rfl ?_
        refine V_iload C d_rd_drive_116 1 rfl ?_
        refine V_istore (lv' := [(4, _), (5, _), (8, _), (7, _), (6, _), (0, _), (1, _), (2, _), (3, _)]) C d_rd_drive_118 (by decide) rfl ?_
        refine V_iload C d_rd_drive_120 4 rfl ?_
        refine V_iload C d_rd_drive_122 2 rfl ?_
        refine V_callNi C (c_rp_without l w _ P s hP (by omega)) ns_5 wd_278 wd_1 wd_279 o_rp_without ⟨rfl, rfl, Nat.le_of_ble_eq_true rfl, Nat.le_of_ble_eq_true rfl⟩ rfl rfl (Nat.le_of_ble_eq_true rfl) d_rd_drive_124 ⟨Nat.zero_le _, Nat.zero_le _⟩ ?_
        refine V_istore (lv' := [(6, _), (4, _), (5, _), (8, _), (7, _), (0, _), (1, _), (2, _), (3, _)]) C d_rd_drive_127 (by decide) rfl ?_
        refine V_iinc (lv' := [(7, _), (6, _), (4, _), (5, _), (8, _), (0, _), (1, _), (2, _), (3, _)]) C d_rd_drive_129 4 rfl (by decide) rfl ?_
        refine V_goto C 32 d_rd_drive_132 (by decide) ?_
        refine V_sub (lv' := [(7, _), (6, _), (5, _), (4, _), (0, _), (1, _), (2, _), (3, _)]) [0, 1, 3, 2, 5, 6, 7, 8] rfl ?_
        refine ihf f (by omega) (k + 1) s _ (wo P s) (ntF τ v s (max (t + wyS τ p0 s) (τ 3 s))) (by omega) (by omega) ⟨by omega, by omega⟩ (wo_128 hP (by omega)) (fun h hh => by rw [ntF_ne (by omega) (by omega) (by omega)]; exact hτ h hh) (ntF_29 hl) ?_
        rw [← hE, dvF, if_neg hP0, hs]
      · have hno := fiR_none gN
        exact V_vret C hr d_rd_drive_62 (by rw [← hE, dvF, if_neg hP0, hno])
