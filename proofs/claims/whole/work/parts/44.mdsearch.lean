/-! the reference's search: the contracts -/
set_option maxRecDepth 20000 in
set_option maxHeartbeats 4000000 in
theorem c_md_mayFollow (l : Launch) (w : zW) (σ : Nat → Nat → Int) (n nv : Nat) (hM : mI σ n nv) (h48 : bd σ 48 7 0 6) (v m0 s : Nat) (hv0 : v < 3) (hm : m0 ≤ 7) (hs : s < 7) : zMi l w LL CC g_md_mayFollow rm_md_mayFollow [.ref (w.1 32), .int (zI ((v : Int))), .int (zI ((m0 : Int))), .int (zI ((s : Int)))] σ (zB (mfF σ v s m0 = true)) (σ) := by
  refine zMi.of g_md_mayFollow (by decide +kernel) (Nat.le_of_ble_eq_true rfl) rfl ?_
  intro p e u m args below meth c C hr
  have C : zC p u m args meth c prog_7_method_15_code 6 "RoundPlansModel" w LL CC := C
  have hr : meth.sig.returnType = (some .boolean) := hr
  obtain ⟨hn, hn7, hv, hv3, h33, h34, h35, h36, h37, h38, h39, h40, h41, h42, h43, h44, h45⟩ := id hM
  show V p l e rm_md_mayFollow u m args below meth c 6 w LL CC 0 0 (MQ below (zQi w LL CC (zB (mfF σ v s m0 = true)) (σ) u.heap.size) args u 0 0 (zA w LL.1 u.heap.size)) 0 [(0, .ref (w.1 32)), (1, .int (zI ((v : Int)))), (2, .int (zI ((m0 : Int)))), (3, .int (zI ((s : Int))))] [] σ
  refine V_aload_n C d_md_mayFollow_0 0 rfl ?_
  refine V_getr C 32 6 38 (by decide) rfl rfl in_md (by decide) rfl wd_460 d_md_mayFollow_1 ?_
  refine V_iload_n C d_md_mayFollow_4 3 rfl ?_
  refine V_iald C 38 _ (by decide) rfl rfl (by omega) (by decide) d_md_mayFollow_5 ?_
  have q38 := h38 s hs
  refine V_iconst C d_md_mayFollow_6 ?_
  refine V_cmpeq C 20 d_md_mayFollow_7 (by decide) ⟨by omega, by omega⟩ ⟨by omega, by omega⟩ (fun h1 => ?_) (fun h1 => ?_)
  · refine V_iconst C d_md_mayFollow_20 ?_
    refine V_goto C 25 d_md_mayFollow_21 (by decide) ?_
    refine V_ti (b := zB (mfF σ v s 0 = true)) (by first | (rw [← zB_t (mfF_0.mpr (by omega))]) | (rw [← zB_f (fun z => by have := mfF_0.mp z; omega)])) ?_
    refine V_istore (lv' := [(4, _), (0, _), (1, _), (2, _), (3, _)]) C d_md_mayFollow_25 (by decide) rfl ?_
    refine V_iconst C d_md_mayFollow_27 ?_
    refine V_istore (lv' := [(5, _), (4, _), (0, _), (1, _), (2, _), (3, _)]) C d_md_mayFollow_28 (by decide) rfl ?_
    refine V_sub (lv' := [(5, _), (4, _), (0, _), (1, _), (2, _), (3, _)]) [0, 1, 2, 3, 4, 5] rfl ?_
    refine loopUp (n := m0) (P := fun k => V p l e rm_md_mayFollow u m args below meth c 6 w LL CC 0 0 (MQ below (zQi w LL CC (zB (mfF σ v s m0 = true)) (σ) u.heap.size) args u 0 0 (zA w LL.1 u.heap.size)) 30 [(5, .int (zI ((k : Int)))), (4, .int (zI (zB (mfF σ v s k = true)))), (0, .ref (w.1 32)), (1, .int (zI ((v : Int)))), (2, .int (zI ((m0 : Int)))), (3, .int (zI ((s : Int))))] [] (σ)) (fun k hik ihk => ?_) 0 (Nat.zero_le _)
    show V p l e rm_md_mayFollow u m args below meth c 6 w LL CC 0 0 (MQ below (zQi w LL CC (zB (mfF σ v s m0 = true)) (σ) u.heap.size) args u 0 0 (zA w LL.1 u.heap.size)) 30 [(5, .int (zI ((k : Int)))), (4, .int (zI (zB (mfF σ v s k = true)))), (0, .ref (w.1 32)), (1, .int (zI ((v : Int)))), (2, .int (zI ((m0 : Int)))), (3, .int (zI ((s : Int))))] [] (σ)
    refine V_iload C d_md_mayFollow_30 0 rfl ?_
    refine V_iload_n C d_md_mayFollow_32 4 rfl ?_
    refine V_cmpge C 105 d_md_mayFollow_33 (by decide) ⟨by omega, by omega⟩ ⟨by omega, by omega⟩ (fun he => ?_) (fun he => ?_)
    · have hin : k = m0 := by omega
      subst hin
      refine V_iload C d_md_mayFollow_105 1 rfl ?_
      exact V_zret C hr d_md_mayFollow_107 zB01 rfl rfl
    · have hin : k < m0 := by omega
      have q48 := h48 k (by omega)
      have htr : tr σ k < 7 := by unfold tr; omega
      refine V_iload C d_md_mayFollow_36 1 rfl ?_
      refine V_ifeqB C 96 d_md_mayFollow_38 (by decide) (fun g1 => ?_) (fun g1 => ?_)
      · refine V_iconst C d_md_mayFollow_96 ?_
        refine V_ti (b := zB (mfF σ v s (k + 1) = true)) (by first | (exact zB_t (mfF_s.mpr ⟨g1, g2, g3, g4⟩)) | (exact zB_f (fun z => g1 (mfF_s.mp z).1)) | (exact zB_f (fun z => (mfF_s.mp z).2.1 g2)) | (exact zB_f (fun z => g3 (mfF_s.mp z).2.2.1)) | (exact zB_f (fun z => g4 (mfF_s.mp z).2.2.2))) ?_
        refine V_istore (lv' := [(4, _), (5, _), (0, _), (1, _), (2, _), (3, _)]) C d_md_mayFollow_97 (by decide) rfl ?_
        refine V_iinc (lv' := [(5, _), (4, _), (0, _), (1, _), (2, _), (3, _)]) C d_md_mayFollow_99 1 rfl (by decide) rfl ?_
        refine V_goto C 30 d_md_mayFollow_102 (by decide) ?_
        refine V_sub (lv' := [(5, _), (4, _), (0, _), (1, _), (2, _), (3, _)]) [0, 1, 2, 3, 4, 5] rfl ?_
        exact ihk hin
      · refine V_aload_n C d_md_mayFollow_41 2 rfl ?_
        refine V_getr C 32 17 48 (by decide) rfl rfl in_md (by decide) rfl wd_471 d_md_mayFollow_42 ?_
        refine V_iload C d_md_mayFollow_45 0 rfl ?_
        refine V_iald C 48 _ (by decide) rfl rfl (by omega) (by decide) d_md_mayFollow_47 ?_
        refine V_iload_n C d_md_mayFollow_48 5 rfl ?_
        refine V_cmpeq C 96 d_md_mayFollow_49 (by decide) ⟨by omega, by omega⟩ ⟨by omega, by omega⟩ (fun g2 => ?_) (fun g2 => ?_)
        · refine V_iconst C d_md_mayFollow_96 ?_
          refine V_ti (b := zB (mfF σ v s (k + 1) = true)) (by first | (exact zB_t (mfF_s.mpr ⟨g1, g2, g3, g4⟩)) | (exact zB_f (fun z => g1 (mfF_s.mp z).1)) | (exact zB_f (fun z => (mfF_s.mp z).2.1 g2)) | (exact zB_f (fun z => g3 (mfF_s.mp z).2.2.1)) | (exact zB_f (fun z => g4 (mfF_s.mp z).2.2.2))) ?_
          refine V_istore (lv' := [(4, _), (5, _), (0, _), (1, _), (2, _), (3, _)]) C d_md_mayFollow_97 (by decide) rfl ?_
          refine V_iinc (lv' := [(5, _), (4, _), (0, _), (1, _), (2, _), (3, _)]) C d_md_mayFollow_99 1 rfl (by decide) rfl ?_
          refine V_goto C 30 d_md_mayFollow_102 (by decide) ?_
          refine V_sub (lv' := [(5, _), (4, _), (0, _), (1, _), (2, _), (3, _)]) [0, 1, 2, 3, 4, 5] rfl ?_
          exact ihk hin
        · refine V_aload_n C d_md_mayFollow_52 2 rfl ?_
          refine V_getr C 32 7 39 (by decide) rfl rfl in_md (by decide) rfl wd_461 d_md_mayFollow_53 ?_
          refine V_bipush C d_md_mayFollow_56 (by decide) ?_
          refine V_aload_n C d_md_mayFollow_58 2 rfl ?_
          refine V_getr C 32 17 48 (by decide) rfl rfl in_md (by decide) rfl wd_471 d_md_mayFollow_59 ?_
          refine V_iload C d_md_mayFollow_62 0 rfl ?_
          refine V_iald C 48 _ (by decide) rfl rfl (by omega) (by decide) d_md_mayFollow_64 ?_
          refine V_ti (b := ((tr σ k : Nat) : Int)) (by unfold tr; have := h48 k (by omega); omega) ?_
          refine V_imul C d_md_mayFollow_65 ?_
          refine V_iload_n C d_md_mayFollow_66 5 rfl ?_
          refine V_iadd C d_md_mayFollow_67 ?_
          refine V_zald C 39 (7 * tr σ k + s) (by decide) rfl (by omega) (by omega) (by decide) d_md_mayFollow_68 ?_
          have q39 := h39 (7 * tr σ k + s) (by omega)
          refine V_ifne C 96 d_md_mayFollow_69 (by decide) ⟨by omega, by omega⟩ (fun g3 => ?_) (fun g3 => ?_)
          · refine V_iconst C d_md_mayFollow_96 ?_
            refine V_ti (b := zB (mfF σ v s (k + 1) = true)) (by first | (exact zB_t (mfF_s.mpr ⟨g1, g2, g3, g4⟩)) | (exact zB_f (fun z => g1 (mfF_s.mp z).1)) | (exact zB_f (fun z => (mfF_s.mp z).2.1 g2)) | (exact zB_f (fun z => g3 (mfF_s.mp z).2.2.1)) | (exact zB_f (fun z => g4 (mfF_s.mp z).2.2.2))) ?_
            refine V_istore (lv' := [(4, _), (5, _), (0, _), (1, _), (2, _), (3, _)]) C d_md_mayFollow_97 (by decide) rfl ?_
            refine V_iinc (lv' := [(5, _), (4, _), (0, _), (1, _), (2, _), (3, _)]) C d_md_mayFollow_99 1 rfl (by decide) rfl ?_
            refine V_goto C 30 d_md_mayFollow_102 (by decide) ?_
            refine V_sub (lv' := [(5, _), (4, _), (0, _), (1, _), (2, _), (3, _)]) [0, 1, 2, 3, 4, 5] rfl ?_
            exact ihk hin
          · refine V_aload_n C d_md_mayFollow_72 2 rfl ?_
            refine V_getr C 32 8 40 (by decide) rfl rfl in_md (by decide) rfl wd_462 d_md_mayFollow_73 ?_
            refine V_bipush C d_md_mayFollow_76 (by decide) ?_
            refine V_iload_n C d_md_mayFollow_78 5 rfl ?_
            refine V_imul C d_md_mayFollow_79 ?_
            refine V_aload_n C d_md_mayFollow_80 2 rfl ?_
            refine V_getr C 32 17 48 (by decide) rfl rfl in_md (by decide) rfl wd_471 d_md_mayFollow_81 ?_
            refine V_iload C d_md_mayFollow_84 0 rfl ?_
            refine V_iald C 48 _ (by decide) rfl rfl (by omega) (by decide) d_md_mayFollow_86 ?_
            refine V_ti (b := ((tr σ k : Nat) : Int)) (by unfold tr; have := h48 k (by omega); omega) ?_
            refine V_iadd C d_md_mayFollow_87 ?_
            refine V_zald C 40 (7 * s + tr σ k) (by decide) rfl (by omega) (by omega) (by decide) d_md_mayFollow_88 ?_
            have q40 := h40 (7 * s + tr σ k) (by omega)
            refine V_ifne C 96 d_md_mayFollow_89 (by decide) ⟨by omega, by omega⟩ (fun g4 => ?_) (fun g4 => ?_)
            · refine V_iconst C d_md_mayFollow_96 ?_
              refine V_ti (b := zB (mfF σ v s (k + 1) = true)) (by first | (exact zB_t (mfF_s.mpr ⟨g1, g2, g3, g4⟩)) | (exact zB_f (fun z => g1 (mfF_s.mp z).1)) | (exact zB_f (fun z => (mfF_s.mp z).2.1 g2)) | (exact zB_f (fun z => g3 (mfF_s.mp z).2.2.1)) | (exact zB_f (fun z => g4 (mfF_s.mp z).2.2.2))) ?_
              refine V_istore (lv' := [(4, _), (5, _), (0, _), (1, _), (2, _), (3, _)]) C d_md_mayFollow_97 (by decide) rfl ?_
              refine V_iinc (lv' := [(5, _), (4, _), (0, _), (1, _), (2, _), (3, _)]) C d_md_mayFollow_99 1 rfl (by decide) rfl ?_
              refine V_goto C 30 d_md_mayFollow_102 (by decide) ?_
              refine V_sub (lv' := [(5, _), (4, _), (0, _), (1, _), (2, _), (3, _)]) [0, 1, 2, 3, 4, 5] rfl ?_
              exact ihk hin
            · refine V_iconst C d_md_mayFollow_92 ?_
              refine V_goto C 97 d_md_mayFollow_93 (by decide) ?_
              refine V_ti (b := zB (mfF σ v s (k + 1) = true)) (by first | (exact zB_t (mfF_s.mpr ⟨g1, g2, g3, g4⟩)) | (exact zB_f (fun z => g1 (mfF_s.mp z).1)) | (exact zB_f (fun z => (mfF_s.mp z).2.1 g2)) | (exact zB_f (fun z => g3 (mfF_s.mp z).2.2.1)) | (exact zB_f (fun z => g4 (mfF_s.mp z).2.2.2))) ?_
              refine V_istore (lv' := [(4, _), (5, _), (0, _), (1, _), (2, _), (3, _)]) C d_md_mayFollow_97 (by decide) rfl ?_
              refine V_iinc (lv' := [(5, _), (4, _), (0, _), (1, _), (2, _), (3, _)]) C d_md_mayFollow_99 1 rfl (by decide) rfl ?_
              refine V_goto C 30 d_md_mayFollow_102 (by decide) ?_
              refine V_sub (lv' := [(5, _), (4, _), (0, _), (1, _), (2, _), (3, _)]) [0, 1, 2, 3, 4, 5] rfl ?_
              exact ihk hin
  · refine V_aload_n C d_md_mayFollow_10 0 rfl ?_
    refine V_getr C 32 6 38 (by decide) rfl rfl in_md (by decide) rfl wd_460 d_md_mayFollow_11 ?_
    refine V_iload_n C d_md_mayFollow_14 3 rfl ?_
    refine V_iald C 38 _ (by decide) rfl rfl (by omega) (by decide) d_md_mayFollow_15 ?_
    refine V_iload_n C d_md_mayFollow_16 1 rfl ?_
    refine V_cmpne C 24 d_md_mayFollow_17 (by decide) ⟨by omega, by omega⟩ ⟨by omega, by omega⟩ (fun h7 => ?_) (fun h7 => ?_)
    · refine V_iconst C d_md_mayFollow_24 ?_
      refine V_ti (b := zB (mfF σ v s 0 = true)) (by first | (rw [← zB_t (mfF_0.mpr (by omega))]) | (rw [← zB_f (fun z => by have := mfF_0.mp z; omega)])) ?_
      refine V_istore (lv' := [(4, _), (0, _), (1, _), (2, _), (3, _)]) C d_md_mayFollow_25 (by decide) rfl ?_
      refine V_iconst C d_md_mayFollow_27 ?_
      refine V_istore (lv' := [(5, _), (4, _), (0, _), (1, _), (2, _), (3, _)]) C d_md_mayFollow_28 (by decide) rfl ?_
      refine V_sub (lv' := [(5, _), (4, _), (0, _), (1, _), (2, _), (3, _)]) [0, 1, 2, 3, 4, 5] rfl ?_
      refine loopUp (n := m0) (P := fun k => V p l e rm_md_mayFollow u m args below meth c 6 w LL CC 0 0 (MQ below (zQi w LL CC (zB (mfF σ v s m0 = true)) (σ) u.heap.size) args u 0 0 (zA w LL.1 u.heap.size)) 30 [(5, .int (zI ((k : Int)))), (4, .int (zI (zB (mfF σ v s k = true)))), (0, .ref (w.1 32)), (1, .int (zI ((v : Int)))), (2, .int (zI ((m0 : Int)))), (3, .int (zI ((s : Int))))] [] (σ)) (fun k hik ihk => ?_) 0 (Nat.zero_le _)
      show V p l e rm_md_mayFollow u m args below meth c 6 w LL CC 0 0 (MQ below (zQi w LL CC (zB (mfF σ v s m0 = true)) (σ) u.heap.size) args u 0 0 (zA w LL.1 u.heap.size)) 30 [(5, .int (zI ((k : Int)))), (4, .int (zI (zB (mfF σ v s k = true)))), (0, .ref (w.1 32)), (1, .int (zI ((v : Int)))), (2, .int (zI ((m0 : Int)))), (3, .int (zI ((s : Int))))] [] (σ)
      refine V_iload C d_md_mayFollow_30 0 rfl ?_
      refine V_iload_n C d_md_mayFollow_32 4 rfl ?_
      refine V_cmpge C 105 d_md_mayFollow_33 (by decide) ⟨by omega, by omega⟩ ⟨by omega, by omega⟩ (fun he => ?_) (fun he => ?_)
      · have hin : k = m0 := by omega
        subst hin
        refine V_iload C d_md_mayFollow_105 1 rfl ?_
        exact V_zret C hr d_md_mayFollow_107 zB01 rfl rfl
      · have hin : k < m0 := by omega
        have q48 := h48 k (by omega)
        have htr : tr σ k < 7 := by unfold tr; omega
        refine V_iload C d_md_mayFollow_36 1 rfl ?_
        refine V_ifeqB C 96 d_md_mayFollow_38 (by decide) (fun g1 => ?_) (fun g1 => ?_)
        · refine V_iconst C d_md_mayFollow_96 ?_
          refine V_ti (b := zB (mfF σ v s (k + 1) = true)) (by first | (exact zB_t (mfF_s.mpr ⟨g1, g2, g3, g4⟩)) | (exact zB_f (fun z => g1 (mfF_s.mp z).1)) | (exact zB_f (fun z => (mfF_s.mp z).2.1 g2)) | (exact zB_f (fun z => g3 (mfF_s.mp z).2.2.1)) | (exact zB_f (fun z => g4 (mfF_s.mp z).2.2.2))) ?_
          refine V_istore (lv' := [(4, _), (5, _), (0, _), (1, _), (2, _), (3, _)]) C d_md_mayFollow_97 (by decide) rfl ?_
          refine V_iinc (lv' := [(5, _), (4, _), (0, _), (1, _), (2, _), (3, _)]) C d_md_mayFollow_99 1 rfl (by decide) rfl ?_
          refine V_goto C 30 d_md_mayFollow_102 (by decide) ?_
          refine V_sub (lv' := [(5, _), (4, _), (0, _), (1, _), (2, _), (3, _)]) [0, 1, 2, 3, 4, 5] rfl ?_
          exact ihk hin
        · refine V_aload_n C d_md_mayFollow_41 2 rfl ?_
          refine V_getr C 32 17 48 (by decide) rfl rfl in_md (by decide) rfl wd_471 d_md_mayFollow_42 ?_
          refine V_iload C d_md_mayFollow_45 0 rfl ?_
          refine V_iald C 48 _ (by decide) rfl rfl (by omega) (by decide) d_md_mayFollow_47 ?_
          refine V_iload_n C d_md_mayFollow_48 5 rfl ?_
          refine V_cmpeq C 96 d_md_mayFollow_49 (by decide) ⟨by omega, by omega⟩ ⟨by omega, by omega⟩ (fun g2 => ?_) (fun g2 => ?_)
          · refine V_iconst C d_md_mayFollow_96 ?_
            refine V_ti (b := zB (mfF σ v s (k + 1) = true)) (by first | (exact zB_t (mfF_s.mpr ⟨g1, g2, g3, g4⟩)) | (exact zB_f (fun z => g1 (mfF_s.mp z).1)) | (exact zB_f (fun z => (mfF_s.mp z).2.1 g2)) | (exact zB_f (fun z => g3 (mfF_s.mp z).2.2.1)) | (exact zB_f (fun z => g4 (mfF_s.mp z).2.2.2))) ?_
            refine V_istore (lv' := [(4, _), (5, _), (0, _), (1, _), (2, _), (3, _)]) C d_md_mayFollow_97 (by decide) rfl ?_
            refine V_iinc (lv' := [(5, _), (4, _), (0, _), (1, _), (2, _), (3, _)]) C d_md_mayFollow_99 1 rfl (by decide) rfl ?_
            refine V_goto C 30 d_md_mayFollow_102 (by decide) ?_
            refine V_sub (lv' := [(5, _), (4, _), (0, _), (1, _), (2, _), (3, _)]) [0, 1, 2, 3, 4, 5] rfl ?_
            exact ihk hin
          · refine V_aload_n C d_md_mayFollow_52 2 rfl ?_
            refine V_getr C 32 7 39 (by decide) rfl rfl in_md (by decide) rfl wd_461 d_md_mayFollow_53 ?_
            refine V_bipush C d_md_mayFollow_56 (by decide) ?_
            refine V_aload_n C d_md_mayFollow_58 2 rfl ?_
            refine V_getr C 32 17 48 (by decide) rfl rfl in_md (by decide) rfl wd_471 d_md_mayFollow_59 ?_
            refine V_iload C d_md_mayFollow_62 0 rfl ?_
            refine V_iald C 48 _ (by decide) rfl rfl (by omega) (by decide) d_md_mayFollow_64 ?_
            refine V_ti (b := ((tr σ k : Nat) : Int)) (by unfold tr; have := h48 k (by omega); omega) ?_
            refine V_imul C d_md_mayFollow_65 ?_
            refine V_iload_n C d_md_mayFollow_66 5 rfl ?_
            refine V_iadd C d_md_mayFollow_67 ?_
            refine V_zald C 39 (7 * tr σ k + s) (by decide) rfl (by omega) (by omega) (by decide) d_md_mayFollow_68 ?_
            have q39 := h39 (7 * tr σ k + s) (by omega)
            refine V_ifne C 96 d_md_mayFollow_69 (by decide) ⟨by omega, by omega⟩ (fun g3 => ?_) (fun g3 => ?_)
            · refine V_iconst C d_md_mayFollow_96 ?_
              refine V_ti (b := zB (mfF σ v s (k + 1) = true)) (by first | (exact zB_t (mfF_s.mpr ⟨g1, g2, g3, g4⟩)) | (exact zB_f (fun z => g1 (mfF_s.mp z).1)) | (exact zB_f (fun z => (mfF_s.mp z).2.1 g2)) | (exact zB_f (fun z => g3 (mfF_s.mp z).2.2.1)) | (exact zB_f (fun z => g4 (mfF_s.mp z).2.2.2))) ?_
              refine V_istore (lv' := [(4, _), (5, _), (0, _), (1, _), (2, _), (3, _)]) C d_md_mayFollow_97 (by decide) rfl ?_
              refine V_iinc (lv' := [(5, _), (4, _), (0, _), (1, _), (2, _), (3, _)]) C d_md_mayFollow_99 1 rfl (by decide) rfl ?_
              refine V_goto C 30 d_md_mayFollow_102 (by decide) ?_
              refine V_sub (lv' := [(5, _), (4, _), (0, _), (1, _), (2, _), (3, _)]) [0, 1, 2, 3, 4, 5] rfl ?_
              exact ihk hin
            · refine V_aload_n C d_md_mayFollow_72 2 rfl ?_
              refine V_getr C 32 8 40 (by decide) rfl rfl in_md (by decide) rfl wd_462 d_md_mayFollow_73 ?_
              refine V_bipush C d_md_mayFollow_76 (by decide) ?_
              refine V_iload_n C d_md_mayFollow_78 5 rfl ?_
              refine V_imul C d_md_mayFollow_79 ?_
              refine V_aload_n C d_md_mayFollow_80 2 rfl ?_
              refine V_getr C 32 17 48 (by decide) rfl rfl in_md (by decide) rfl wd_471 d_md_mayFollow_81 ?_
              refine V_iload C d_md_mayFollow_84 0 rfl ?_
              refine V_iald C 48 _ (by decide) rfl rfl (by omega) (by decide) d_md_mayFollow_86 ?_
              refine V_ti (b := ((tr σ k : Nat) : Int)) (by unfold tr; have := h48 k (by omega); omega) ?_
              refine V_iadd C d_md_mayFollow_87 ?_
              refine V_zald C 40 (7 * s + tr σ k) (by decide) rfl (by omega) (by omega) (by decide) d_md_mayFollow_88 ?_
              have q40 := h40 (7 * s + tr σ k) (by omega)
              refine V_ifne C 96 d_md_mayFollow_89 (by decide) ⟨by omega, by omega⟩ (fun g4 => ?_) (fun g4 => ?_)
              · refine V_iconst C d_md_mayFollow_96 ?_
                refine V_ti (b := zB (mfF σ v s (k + 1) = true)) (by first | (exact zB_t (mfF_s.mpr ⟨g1, g2, g3, g4⟩)) | (exact zB_f (fun z => g1 (mfF_s.mp z).1)) | (exact zB_f (fun z => (mfF_s.mp z).2.1 g2)) | (exact zB_f (fun z => g3 (mfF_s.mp z).2.2.1)) | (exact zB_f (fun z => g4 (mfF_s.mp z).2.2.2))) ?_
                refine V_istore (lv' := [(4, _), (5, _), (0, _), (1, _), (2, _), (3, _)]) C d_md_mayFollow_97 (by decide) rfl ?_
                refine V_iinc (lv' := [(5, _), (4, _), (0, _), (1, _), (2, _), (3, _)]) C d_md_mayFollow_99 1 rfl (by decide) rfl ?_
                refine V_goto C 30 d_md_mayFollow_102 (by decide) ?_
                refine V_sub (lv' := [(5, _), (4, _), (0, _), (1, _), (2, _), (3, _)]) [0, 1, 2, 3, 4, 5] rfl ?_
                exact ihk hin
              · refine V_iconst C d_md_mayFollow_92 ?_
                refine V_goto C 97 d_md_mayFollow_93 (by decide) ?_
                refine V_ti (b := zB (mfF σ v s (k + 1) = true)) (by first | (exact zB_t (mfF_s.mpr ⟨g1, g2, g3, g4⟩)) | (exact zB_f (fun z => g1 (mfF_s.mp z).1)) | (exact zB_f (fun z => (mfF_s.mp z).2.1 g2)) | (exact zB_f (fun z => g3 (mfF_s.mp z).2.2.1)) | (exact zB_f (fun z => g4 (mfF_s.mp z).2.2.2))) ?_
                refine V_istore (lv' := [(4, _), (5, _), (0, _), (1, _), (2, _), (3, _)]) C d_md_mayFollow_97 (by decide) rfl ?_
                refine V_iinc (lv' := [(5, _), (4, _), (0, _), (1, _), (2, _), (3, _)]) C d_md_mayFollow_99 1 rfl (by decide) rfl ?_
                refine V_goto C 30 d_md_mayFollow_102 (by decide) ?_
                refine V_sub (lv' := [(5, _), (4, _), (0, _), (1, _), (2, _), (3, _)]) [0, 1, 2, 3, 4, 5] rfl ?_
                exact ihk hin
    · refine V_iconst C d_md_mayFollow_20 ?_
      refine V_goto C 25 d_md_mayFollow_21 (by decide) ?_
      refine V_ti (b := zB (mfF σ v s 0 = true)) (by first | (rw [← zB_t (mfF_0.mpr (by omega))]) | (rw [← zB_f (fun z => by have := mfF_0.mp z; omega)])) ?_
      refine V_istore (lv' := [(4, _), (0, _), (1, _), (2, _), (3, _)]) C d_md_mayFollow_25 (by decide) rfl ?_
      refine V_iconst C d_md_mayFollow_27 ?_
      refine V_istore (lv' := [(5, _), (4, _), (0, _), (1, _), (2, _), (3, _)]) C d_md_mayFollow_28 (by decide) rfl ?_
      refine V_sub (lv' := [(5, _), (4, _), (0, _), (1, _), (2, _), (3, _)]) [0, 1, 2, 3, 4, 5] rfl ?_
      refine loopUp (n := m0) (P := fun k => V p l e rm_md_mayFollow u m args below meth c 6 w LL CC 0 0 (MQ below (zQi w LL CC (zB (mfF σ v s m0 = true)) (σ) u.heap.size) args u 0 0 (zA w LL.1 u.heap.size)) 30 [(5, .int (zI ((k : Int)))), (4, .int (zI (zB (mfF σ v s k = true)))), (0, .ref (w.1 32)), (1, .int (zI ((v : Int)))), (2, .int (zI ((m0 : Int)))), (3, .int (zI ((s : Int))))] [] (σ)) (fun k hik ihk => ?_) 0 (Nat.zero_le _)
      show V p l e rm_md_mayFollow u m args below meth c 6 w LL CC 0 0 (MQ below (zQi w LL CC (zB (mfF σ v s m0 = true)) (σ) u.heap.size) args u 0 0 (zA w LL.1 u.heap.size)) 30 [(5, .int (zI ((k : Int)))), (4, .int (zI (zB (mfF σ v s k = true)))), (0, .ref (w.1 32)), (1, .int (zI ((v : Int)))), (2, .int (zI ((m0 : Int)))), (3, .int (zI ((s : Int))))] [] (σ)
      refine V_iload C d_md_mayFollow_30 0 rfl ?_
      refine V_iload_n C d_md_mayFollow_32 4 rfl ?_
      refine V_cmpge C 105 d_md_mayFollow_33 (by decide) ⟨by omega, by omega⟩ ⟨by omega, by omega⟩ (fun he => ?_) (fun he => ?_)
      · have hin : k = m0 := by omega
        subst hin
        refine V_iload C d_md_mayFollow_105 1 rfl ?_
        exact V_zret C hr d_md_mayFollow_107 zB01 rfl rfl
      · have hin : k < m0 := by omega
        have q48 := h48 k (by omega)
        have htr : tr σ k < 7 := by unfold tr; omega
        refine V_iload C d_md_mayFollow_36 1 rfl ?_
        refine V_ifeqB C 96 d_md_mayFollow_38 (by decide) (fun g1 => ?_) (fun g1 => ?_)
        · refine V_iconst C d_md_mayFollow_96 ?_
          refine V_ti (b := zB (mfF σ v s (k + 1) = true)) (by first | (exact zB_t (mfF_s.mpr ⟨g1, g2, g3, g4⟩)) | (exact zB_f (fun z => g1 (mfF_s.mp z).1)) | (exact zB_f (fun z => (mfF_s.mp z).2.1 g2)) | (exact zB_f (fun z => g3 (mfF_s.mp z).2.2.1)) | (exact zB_f (fun z => g4 (mfF_s.mp z).2.2.2))) ?_
          refine V_istore (lv' := [(4, _), (5, _), (0, _), (1, _), (2, _), (3, _)]) C d_md_mayFollow_97 (by decide) rfl ?_
          refine V_iinc (lv' := [(5, _), (4, _), (0, _), (1, _), (2, _), (3, _)]) C d_md_mayFollow_99 1 rfl (by decide) rfl ?_
          refine V_goto C 30 d_md_mayFollow_102 (by decide) ?_
          refine V_sub (lv' := [(5, _), (4, _), (0, _), (1, _), (2, _), (3, _)]) [0, 1, 2, 3, 4, 5] rfl ?_
          exact ihk hin
        · refine V_aload_n C d_md_mayFollow_41 2 rfl ?_
          refine V_getr C 32 17 48 (by decide) rfl rfl in_md (by decide) rfl wd_471 d_md_mayFollow_42 ?_
          refine V_iload C d_md_mayFollow_45 0 rfl ?_
          refine V_iald C 48 _ (by decide) rfl rfl (by omega) (by decide) d_md_mayFollow_47 ?_
          refine V_iload_n C d_md_mayFollow_48 5 rfl ?_
          refine V_cmpeq C 96 d_md_mayFollow_49 (by decide) ⟨by omega, by omega⟩ ⟨by omega, by omega⟩ (fun g2 => ?_) (fun g2 => ?_)
          · refine V_iconst C d_md_mayFollow_96 ?_
            refine V_ti (b := zB (mfF σ v s (k + 1) = true)) (by first | (exact zB_t (mfF_s.mpr ⟨g1, g2, g3, g4⟩)) | (exact zB_f (fun z => g1 (mfF_s.mp z).1)) | (exact zB_f (fun z => (mfF_s.mp z).2.1 g2)) | (exact zB_f (fun z => g3 (mfF_s.mp z).2.2.1)) | (exact zB_f (fun z => g4 (mfF_s.mp z).2.2.2))) ?_
            refine V_istore (lv' := [(4, _), (5, _), (0, _), (1, _), (2, _), (3, _)]) C d_md_mayFollow_97 (by decide) rfl ?_
            refine V_iinc (lv' := [(5, _), (4, _), (0, _), (1, _), (2, _), (3, _)]) C d_md_mayFollow_99 1 rfl (by decide) rfl ?_
            refine V_goto C 30 d_md_mayFollow_102 (by decide) ?_
            refine V_sub (lv' := [(5, _), (4, _), (0, _), (1, _), (2, _), (3, _)]) [0, 1, 2, 3, 4, 5] rfl ?_
            exact ihk hin
          · refine V_aload_n C d_md_mayFollow_52 2 rfl ?_
            refine V_getr C 32 7 39 (by decide) rfl rfl in_md (by decide) rfl wd_461 d_md_mayFollow_53 ?_
            refine V_bipush C d_md_mayFollow_56 (by decide) ?_
            refine V_aload_n C d_md_mayFollow_58 2 rfl ?_
            refine V_getr C 32 17 48 (by decide) rfl rfl in_md (by decide) rfl wd_471 d_md_mayFollow_59 ?_
            refine V_iload C d_md_mayFollow_62 0 rfl ?_
            refine V_iald C 48 _ (by decide) rfl rfl (by omega) (by decide) d_md_mayFollow_64 ?_
            refine V_ti (b := ((tr σ k : Nat) : Int)) (by unfold tr; have := h48 k (by omega); omega) ?_
            refine V_imul C d_md_mayFollow_65 ?_
            refine V_iload_n C d_md_mayFollow_66 5 rfl ?_
            refine V_iadd C d_md_mayFollow_67 ?_
            refine V_zald C 39 (7 * tr σ k + s) (by decide) rfl (by omega) (by omega) (by decide) d_md_mayFollow_68 ?_
            have q39 := h39 (7 * tr σ k + s) (by omega)
            refine V_ifne C 96 d_md_mayFollow_69 (by decide) ⟨by omega, by omega⟩ (fun g3 => ?_) (fun g3 => ?_)
            · refine V_iconst C d_md_mayFollow_96 ?_
              refine V_ti (b := zB (mfF σ v s (k + 1) = true)) (by first | (exact zB_t (mfF_s.mpr ⟨g1, g2, g3, g4⟩)) | (exact zB_f (fun z => g1 (mfF_s.mp z).1)) | (exact zB_f (fun z => (mfF_s.mp z).2.1 g2)) | (exact zB_f (fun z => g3 (mfF_s.mp z).2.2.1)) | (exact zB_f (fun z => g4 (mfF_s.mp z).2.2.2))) ?_
              refine V_istore (lv' := [(4, _), (5, _), (0, _), (1, _), (2, _), (3, _)]) C d_md_mayFollow_97 (by decide) rfl ?_
              refine V_iinc (lv' := [(5, _), (4, _), (0, _), (1, _), (2, _), (3, _)]) C d_md_mayFollow_99 1 rfl (by decide) rfl ?_
              refine V_goto C 30 d_md_mayFollow_102 (by decide) ?_
              refine V_sub (lv' := [(5, _), (4, _), (0, _), (1, _), (2, _), (3, _)]) [0, 1, 2, 3, 4, 5] rfl ?_
              exact ihk hin
            · refine V_aload_n C d_md_mayFollow_72 2 rfl ?_
              refine V_getr C 32 8 40 (by decide) rfl rfl in_md (by decide) rfl wd_462 d_md_mayFollow_73 ?_
              refine V_bipush C d_md_mayFollow_76 (by decide) ?_
              refine V_iload_n C d_md_mayFollow_78 5 rfl ?_
              refine V_imul C d_md_mayFollow_79 ?_
              refine V_aload_n C d_md_mayFollow_80 2 rfl ?_
              refine V_getr C 32 17 48 (by decide) rfl rfl in_md (by decide) rfl wd_471 d_md_mayFollow_81 ?_
              refine V_iload C d_md_mayFollow_84 0 rfl ?_
              refine V_iald C 48 _ (by decide) rfl rfl (by omega) (by decide) d_md_mayFollow_86 ?_
              refine V_ti (b := ((tr σ k : Nat) : Int)) (by unfold tr; have := h48 k (by omega); omega) ?_
              refine V_iadd C d_md_mayFollow_87 ?_
              refine V_zald C 40 (7 * s + tr σ k) (by decide) rfl (by omega) (by omega) (by decide) d_md_mayFollow_88 ?_
              have q40 := h40 (7 * s + tr σ k) (by omega)
              refine V_ifne C 96 d_md_mayFollow_89 (by decide) ⟨by omega, by omega⟩ (fun g4 => ?_) (fun g4 => ?_)
              · refine V_iconst C d_md_mayFollow_96 ?_
                refine V_ti (b := zB (mfF σ v s (k + 1) = true)) (by first | (exact zB_t (mfF_s.mpr ⟨g1, g2, g3, g4⟩)) | (exact zB_f (fun z => g1 (mfF_s.mp z).1)) | (exact zB_f (fun z => (mfF_s.mp z).2.1 g2)) | (exact zB_f (fun z => g3 (mfF_s.mp z).2.2.1)) | (exact zB_f (fun z => g4 (mfF_s.mp z).2.2.2))) ?_
                refine V_istore (lv' := [(4, _), (5, _), (0, _), (1, _), (2, _), (3, _)]) C d_md_mayFollow_97 (by decide) rfl ?_
                refine V_iinc (lv' := [(5, _), (4, _), (0, _), (1, _), (2, _), (3, _)]) C d_md_mayFollow_99 1 rfl (by decide) rfl ?_
                refine V_goto C 30 d_md_mayFollow_102 (by decide) ?_
                refine V_sub (lv' := [(5, _), (4, _), (0, _), (1, _), (2, _), (3, _)]) [0, 1, 2, 3, 4, 5] rfl ?_
                exact ihk hin
              · refine V_iconst C d_md_mayFollow_92 ?_
                refine V_goto C 97 d_md_mayFollow_93 (by decide) ?_
                refine V_ti (b := zB (mfF σ v s (k + 1) = true)) (by first | (exact zB_t (mfF_s.mpr ⟨g1, g2, g3, g4⟩)) | (exact zB_f (fun z => g1 (mfF_s.mp z).1)) | (exact zB_f (fun z => (mfF_s.mp z).2.1 g2)) | (exact zB_f (fun z => g3 (mfF_s.mp z).2.2.1)) | (exact zB_f (fun z => g4 (mfF_s.mp z).2.2.2))) ?_
                refine V_istore (lv' := [(4, _), (5, _), (0, _), (1, _), (2, _), (3, _)]) C d_md_mayFollow_97 (by decide) rfl ?_
                refine V_iinc (lv' := [(5, _), (4, _), (0, _), (1, _), (2, _), (3, _)]) C d_md_mayFollow_99 1 rfl (by decide) rfl ?_
                refine V_goto C 30 d_md_mayFollow_102 (by decide) ?_
                refine V_sub (lv' := [(5, _), (4, _), (0, _), (1, _), (2, _), (3, _)]) [0, 1, 2, 3, 4, 5] rfl ?_
                exact ihk hin

set_option maxRecDepth 20000 in
set_option maxHeartbeats 4000000 in
theorem c_md_drive (l : Launch) (w : zW) (σ : Nat → Nat → Int) (n nv : Nat) (hM : mI σ n nv) (h48 : bd σ 48 7 0 6) (v m0 : Nat) (hv0 : v < 3) (hm : m0 ≤ 7) : zMi l w LL CC g_md_drive rm_md_drive [.ref (w.1 32), .int (zI ((v : Int))), .int (zI ((m0 : Int)))] σ (drR σ v m0) (dbK σ v m0) := by
  refine zMi.of g_md_drive (by decide +kernel) (Nat.le_of_ble_eq_true rfl) rfl ?_
  intro p e u m args below meth c C hr
  have C : zC p u m args meth c prog_7_method_16_code 8 "RoundPlansModel" w LL CC := C
  have hr : meth.sig.returnType = (some .int) := hr
  obtain ⟨hn, hn7, hv, hv3, h33, h34, h35, h36, h37, h38, h39, h40, h41, h42, h43, h44, h45⟩ := id hM
  show V p l e rm_md_drive u m args below meth c 8 w LL CC 0 0 (MQ below (zQi w LL CC (drR σ v m0) (dbK σ v m0) u.heap.size) args u 0 0 (zA w LL.1 u.heap.size)) 0 [(0, .ref (w.1 32)), (1, .int (zI ((v : Int)))), (2, .int (zI ((m0 : Int))))] [] σ
  refine V_aload_n C d_md_drive_0 0 rfl ?_
  refine V_getr C 32 11 42 (by decide) rfl rfl in_md (by decide) rfl wd_465 d_md_drive_1 ?_
  refine V_iload_n C d_md_drive_4 1 rfl ?_
  refine V_iald C 42 _ (by decide) rfl rfl (by omega) (by decide) d_md_drive_5 ?_
  refine V_istore_n (lv' := [(3, _), (0, _), (1, _), (2, _)]) C d_md_drive_6 (by decide) rfl ?_
  refine V_bipush C d_md_drive_7 (by decide) ?_
  refine V_istore (lv' := [(4, _), (3, _), (0, _), (1, _), (2, _)]) C d_md_drive_9 (by decide) rfl ?_
  refine V_iconst C d_md_drive_11 ?_
  refine V_istore (lv' := [(5, _), (4, _), (3, _), (0, _), (1, _), (2, _)]) C d_md_drive_12 (by decide) rfl ?_
  refine V_iconst C d_md_drive_14 ?_
  refine V_istore (lv' := [(6, _), (5, _), (4, _), (3, _), (0, _), (1, _), (2, _)]) C d_md_drive_15 (by decide) rfl ?_
  refine V_sub (lv' := [(6, _), (5, _), (4, _), (3, _), (0, _), (1, _), (2, _)]) [0, 1, 2, 3, 4, 5, 6] rfl ?_
  refine loopUp (n := m0) (P := fun k => ∀ q, drK σ v k = some q → V p l e rm_md_drive u m args below meth c 8 w LL CC 0 0 (MQ below (zQi w LL CC (drR σ v m0) (dbK σ v m0) u.heap.size) args u 0 0 (zA w LL.1 u.heap.size)) 17 [(6, .int (zI (k : Int))), (5, .int (zI q.2.2)), (4, .int (zI (q.2.1 : Int))), (3, .int (zI q.1)), (0, .ref (w.1 32)), (1, .int (zI (v : Int))), (2, .int (zI (m0 : Int)))] [] (dbK σ v k)) (fun k hik ihk => ?_) 0 (Nat.zero_le _) (σ 42 v, 7, 0) rfl
  intro q hq
  have hb := drK_bd hM h48 hv0 k (by omega) q hq
  show V p l e rm_md_drive u m args below meth c 8 w LL CC 0 0 (MQ below (zQi w LL CC (drR σ v m0) (dbK σ v m0) u.heap.size) args u 0 0 (zA w LL.1 u.heap.size)) 17 [(6, .int (zI (k : Int))), (5, .int (zI q.2.2)), (4, .int (zI (q.2.1 : Int))), (3, .int (zI q.1)), (0, .ref (w.1 32)), (1, .int (zI (v : Int))), (2, .int (zI (m0 : Int)))] [] (dbK σ v k)
  refine V_iload C d_md_drive_17 0 rfl ?_
  refine V_iload_n C d_md_drive_19 6 rfl ?_
  refine V_cmpge C 124 d_md_drive_20 (by decide) ⟨by omega, by omega⟩ ⟨by omega, by omega⟩ (fun he => ?_) (fun he => ?_)
  · have hin : k = m0 := by omega
    subst hin
    have a45 := h45 (8 * q.2.1 + 7) (by omega)
    have a43 := h43 v hv0
    have a41 := h41 v hv0
    refine V_iload_n C d_md_drive_124 3 rfl ?_
    refine V_aload_n C d_md_drive_125 4 rfl ?_
    refine V_getr C 32 14 45 (by decide) rfl rfl in_md (by decide) rfl wd_468 d_md_drive_126 ?_
    refine V_bipush C d_md_drive_129 (by decide) ?_
    refine V_iload C d_md_drive_131 2 rfl ?_
    refine V_imul C d_md_drive_133 ?_
    refine V_bipush C d_md_drive_134 (by decide) ?_
    refine V_iadd C d_md_drive_136 ?_
    refine V_iald C 45 (8 * q.2.1 + 7) (by decide) rfl (by omega) (by omega) (by decide) d_md_drive_137 ?_
    refine V_ti (b := σ 45 (8 * q.2.1 + 7)) (by rw [dbK_ne (by decide)]) ?_
    refine V_iadd C d_md_drive_138 ?_
    refine V_istore_n (lv' := [(3, _), (6, _), (5, _), (4, _), (0, _), (1, _), (2, _)]) C d_md_drive_139 (by decide) rfl ?_
    refine V_iload_n C d_md_drive_140 0 rfl ?_
    refine V_aload_n C d_md_drive_141 4 rfl ?_
    refine V_getr C 32 12 43 (by decide) rfl rfl in_md (by decide) rfl wd_466 d_md_drive_142 ?_
    refine V_iload_n C d_md_drive_145 5 rfl ?_
    refine V_iald C 43 v (by decide) rfl rfl (by omega) (by decide) d_md_drive_146 ?_
    refine V_ti (b := σ 43 v) (by rw [dbK_ne (by decide)]) ?_
    refine V_cmpgt C 165 d_md_drive_147 (by decide) ⟨by omega, by omega⟩ ⟨by omega, by omega⟩ (fun g3 => ?_) (fun g3 => ?_)
    · refine V_iconst C d_md_drive_165 ?_
      exact V_iret C hr d_md_drive_166 (by unfold drR; rw [hq]; dsimp only; first | (rw [if_pos ⟨by omega, by omega⟩]) | (rw [if_neg (by omega)])) rfl
    · refine V_iload C d_md_drive_150 2 rfl ?_
      refine V_aload_n C d_md_drive_152 4 rfl ?_
      refine V_getr C 32 10 41 (by decide) rfl rfl in_md (by decide) rfl wd_464 d_md_drive_153 ?_
      refine V_iload_n C d_md_drive_156 5 rfl ?_
      refine V_iald C 41 v (by decide) rfl rfl (by omega) (by decide) d_md_drive_157 ?_
      refine V_ti (b := σ 41 v) (by rw [dbK_ne (by decide)]) ?_
      refine V_cmpgt C 165 d_md_drive_158 (by decide) ⟨by omega, by omega⟩ ⟨by omega, by omega⟩ (fun g4 => ?_) (fun g4 => ?_)
      · refine V_iconst C d_md_drive_165 ?_
        exact V_iret C hr d_md_drive_166 (by unfold drR; rw [hq]; dsimp only; first | (rw [if_pos ⟨by omega, by omega⟩]) | (rw [if_neg (by omega)])) rfl
      · refine V_iload_n C d_md_drive_161 0 rfl ?_
        refine V_goto C 166 d_md_drive_162 (by decide) ?_
        exact V_iret C hr d_md_drive_166 (by unfold drR; rw [hq]; dsimp only; first | (rw [if_pos ⟨by omega, by omega⟩]) | (rw [if_neg (by omega)])) rfl
  · have hin : k < m0 := by omega
    have q48 := h48 k (by omega)
    have htr : tr σ k < 7 := by unfold tr; omega
    have a33 := h33 (tr σ k) htr
    have a34 := h34 (tr σ k) htr
    have a35 := h35 (tr σ k) htr
    have a36 := h36 (tr σ k) htr
    have a45 := h45 (8 * q.2.1 + tr σ k) (by omega)
    refine V_aload_n C d_md_drive_23 4 rfl ?_
    refine V_getr C 32 17 48 (by decide) rfl rfl in_md (by decide) rfl wd_471 d_md_drive_24 ?_
    refine V_iload C d_md_drive_27 0 rfl ?_
    refine V_iald C 48 _ (by decide) rfl rfl (by omega) (by decide) d_md_drive_29 ?_
    refine V_ti (b := ((tr σ k : Nat) : Int)) (by rw [dbK_ne (by decide)]; unfold tr; omega) ?_
    refine V_istore (lv' := [(7, _), (6, _), (5, _), (4, _), (3, _), (0, _), (1, _), (2, _)]) C d_md_drive_30 (by decide) rfl ?_
    refine V_iload_n C d_md_drive_32 4 rfl ?_
    refine V_aload_n C d_md_drive_33 5 rfl ?_
    refine V_getr C 32 14 45 (by decide) rfl rfl in_md (by decide) rfl wd_468 d_md_drive_34 ?_
    refine V_bipush C d_md_drive_37 (by decide) ?_
    refine V_iload C d_md_drive_39 3 rfl ?_
    refine V_imul C d_md_drive_41 ?_
    refine V_iload C d_md_drive_42 0 rfl ?_
    refine V_iadd C d_md_drive_44 ?_
    refine V_iald C 45 (8 * q.2.1 + tr σ k) (by decide) rfl (by omega) (by omega) (by decide) d_md_drive_45 ?_
    refine V_ti (b := σ 45 (8 * q.2.1 + tr σ k)) (by rw [dbK_ne (by decide)]) ?_
    refine V_iadd C d_md_drive_46 ?_
    refine V_istore_n (lv' := [(3, _), (7, _), (6, _), (5, _), (4, _), (0, _), (1, _), (2, _)]) C d_md_drive_47 (by decide) rfl ?_
    refine V_iload_n C d_md_drive_48 0 rfl ?_
    refine V_aload_n C d_md_drive_49 5 rfl ?_
    refine V_getr C 32 3 35 (by decide) rfl rfl in_md (by decide) rfl wd_457 d_md_drive_50 ?_
    refine V_iload C d_md_drive_53 1 rfl ?_
    refine V_iald C 35 (tr σ k) (by decide) rfl rfl (by omega) (by decide) d_md_drive_55 ?_
    refine V_ti (b := σ 35 (tr σ k)) (by rw [dbK_ne (by decide)]) ?_
    refine V_cmple C 61 d_md_drive_56 (by decide) ⟨by omega, by omega⟩ ⟨by omega, by omega⟩ (fun g1 => ?_) (fun g1 => ?_)
    · refine V_iload_n C d_md_drive_61 0 rfl ?_
      refine V_aload_n C d_md_drive_62 5 rfl ?_
      refine V_getr C 32 2 34 (by decide) rfl rfl in_md (by decide) rfl wd_456 d_md_drive_63 ?_
      refine V_iload C d_md_drive_66 1 rfl ?_
      refine V_iald C 34 (tr σ k) (by decide) rfl rfl (by omega) (by decide) d_md_drive_68 ?_
      refine V_ti (b := σ 34 (tr σ k)) (by rw [dbK_ne (by decide)]) ?_
      refine V_cmpge C 82 d_md_drive_69 (by decide) ⟨by omega, by omega⟩ ⟨by omega, by omega⟩ (fun g2 => ?_) (fun g2 => ?_)
      · refine V_iload_n C d_md_drive_82 0 rfl ?_
        refine V_ti (b := max (q.1 + σ 45 (8 * q.2.1 + tr σ k)) (σ 34 (tr σ k))) (by omega) ?_
        refine V_istore_n (lv' := [(3, _), (7, _), (6, _), (5, _), (4, _), (0, _), (1, _), (2, _)]) C d_md_drive_83 (by decide) rfl ?_
        refine V_aload_n C d_md_drive_84 5 rfl ?_
        refine V_getr C 32 23 50 (by decide) rfl rfl in_md (by decide) rfl wd_477 d_md_drive_85 ?_
        refine V_iload C d_md_drive_88 1 rfl ?_
        refine V_iload_n C d_md_drive_90 0 rfl ?_
        refine V_iast C 50 (tr σ k) (by decide) rfl rfl (by omega) (by decide) d_md_drive_91 ?_
        refine V_iload_n C d_md_drive_92 0 rfl ?_
        refine V_aload_n C d_md_drive_93 5 rfl ?_
        refine V_getr C 32 4 36 (by decide) rfl rfl in_md (by decide) rfl wd_458 d_md_drive_94 ?_
        refine V_iload C d_md_drive_97 1 rfl ?_
        refine V_iald C 36 (tr σ k) (by decide) rfl rfl (by omega) (by decide) d_md_drive_99 ?_
        refine V_ti (b := σ 36 (tr σ k)) (by rw [zU_ne (by decide), dbK_ne (by decide)]) ?_
        refine V_iadd C d_md_drive_100 ?_
        refine V_istore_n (lv' := [(3, _), (7, _), (6, _), (5, _), (4, _), (0, _), (1, _), (2, _)]) C d_md_drive_101 (by decide) rfl ?_
        refine V_iload C d_md_drive_102 3 rfl ?_
        refine V_aload_n C d_md_drive_104 5 rfl ?_
        refine V_getr C 32 1 33 (by decide) rfl rfl in_md (by decide) rfl wd_455 d_md_drive_105 ?_
        refine V_iload C d_md_drive_108 1 rfl ?_
        refine V_iald C 33 (tr σ k) (by decide) rfl rfl (by omega) (by decide) d_md_drive_110 ?_
        refine V_ti (b := σ 33 (tr σ k)) (by rw [zU_ne (by decide), dbK_ne (by decide)]) ?_
        refine V_iadd C d_md_drive_111 ?_
        refine V_istore (lv' := [(5, _), (3, _), (7, _), (6, _), (4, _), (0, _), (1, _), (2, _)]) C d_md_drive_112 (by decide) rfl ?_
        refine V_iload C d_md_drive_114 2 rfl ?_
        refine V_istore (lv' := [(4, _), (5, _), (3, _), (7, _), (6, _), (0, _), (1, _), (2, _)]) C d_md_drive_116 (by decide) rfl ?_
        refine V_iinc (lv' := [(6, _), (4, _), (5, _), (3, _), (7, _), (0, _), (1, _), (2, _)]) C d_md_drive_118 4 rfl (by decide) rfl ?_
        refine V_goto C 17 d_md_drive_121 (by decide) ?_
        refine V_sub (lv' := [(6, _), (5, _), (4, _), (3, _), (0, _), (1, _), (2, _)]) [0, 2, 1, 3, 5, 6, 7] rfl ?_
        have hg := drK_go hq (by omega)
        have h99 := ihk hin _ hg.1
        rw [hg.2] at h99
        exact h99
      · refine V_aload_n C d_md_drive_72 5 rfl ?_
        refine V_getr C 32 2 34 (by decide) rfl rfl in_md (by decide) rfl wd_456 d_md_drive_73 ?_
        refine V_iload C d_md_drive_76 1 rfl ?_
        refine V_iald C 34 (tr σ k) (by decide) rfl rfl (by omega) (by decide) d_md_drive_78 ?_
        refine V_ti (b := σ 34 (tr σ k)) (by rw [dbK_ne (by decide)]) ?_
        refine V_goto C 83 d_md_drive_79 (by decide) ?_
        refine V_ti (b := max (q.1 + σ 45 (8 * q.2.1 + tr σ k)) (σ 34 (tr σ k))) (by omega) ?_
        refine V_istore_n (lv' := [(3, _), (7, _), (6, _), (5, _), (4, _), (0, _), (1, _), (2, _)]) C d_md_drive_83 (by decide) rfl ?_
        refine V_aload_n C d_md_drive_84 5 rfl ?_
        refine V_getr C 32 23 50 (by decide) rfl rfl in_md (by decide) rfl wd_477 d_md_drive_85 ?_
        refine V_iload C d_md_drive_88 1 rfl ?_
        refine V_iload_n C d_md_drive_90 0 rfl ?_
        refine V_iast C 50 (tr σ k) (by decide) rfl rfl (by omega) (by decide) d_md_drive_91 ?_
        refine V_iload_n C d_md_drive_92 0 rfl ?_
        refine V_aload_n C d_md_drive_93 5 rfl ?_
        refine V_getr C 32 4 36 (by decide) rfl rfl in_md (by decide) rfl wd_458 d_md_drive_94 ?_
        refine V_iload C d_md_drive_97 1 rfl ?_
        refine V_iald C 36 (tr σ k) (by decide) rfl rfl (by omega) (by decide) d_md_drive_99 ?_
        refine V_ti (b := σ 36 (tr σ k)) (by rw [zU_ne (by decide), dbK_ne (by decide)]) ?_
        refine V_iadd C d_md_drive_100 ?_
        refine V_istore_n (lv' := [(3, _), (7, _), (6, _), (5, _), (4, _), (0, _), (1, _), (2, _)]) C d_md_drive_101 (by decide) rfl ?_
        refine V_iload C d_md_drive_102 3 rfl ?_
        refine V_aload_n C d_md_drive_104 5 rfl ?_
        refine V_getr C 32 1 33 (by decide) rfl rfl in_md (by decide) rfl wd_455 d_md_drive_105 ?_
        refine V_iload C d_md_drive_108 1 rfl ?_
        refine V_iald C 33 (tr σ k) (by decide) rfl rfl (by omega) (by decide) d_md_drive_110 ?_
        refine V_ti (b := σ 33 (tr σ k)) (by rw [zU_ne (by decide), dbK_ne (by decide)]) ?_
        refine V_iadd C d_md_drive_111 ?_
        refine V_istore (lv' := [(5, _), (3, _), (7, _), (6, _), (4, _), (0, _), (1, _), (2, _)]) C d_md_drive_112 (by decide) rfl ?_
        refine V_iload C d_md_drive_114 2 rfl ?_
        refine V_istore (lv' := [(4, _), (5, _), (3, _), (7, _), (6, _), (0, _), (1, _), (2, _)]) C d_md_drive_116 (by decide) rfl ?_
        refine V_iinc (lv' := [(6, _), (4, _), (5, _), (3, _), (7, _), (0, _), (1, _), (2, _)]) C d_md_drive_118 4 rfl (by decide) rfl ?_
        refine V_goto C 17 d_md_drive_121 (by decide) ?_
        refine V_sub (lv' := [(6, _), (5, _), (4, _), (3, _), (0, _), (1, _), (2, _)]) [0, 2, 1, 3, 5, 6, 7] rfl ?_
        have hg := drK_go hq (by omega)
        have h99 := ihk hin _ hg.1
        rw [hg.2] at h99
        exact h99
    · refine V_iconst C d_md_drive_59 ?_
      exact V_iret C hr d_md_drive_60 (by unfold drR; rw [((drK_no (drK_late hq (by omega)).1) m0 hin).1]) (by rw [((drK_no (drK_late hq (by omega)).1) m0 hin).2, (drK_late hq (by omega)).2])

set_option maxRecDepth 20000 in
set_option maxHeartbeats 4000000 in
theorem c_md_setOf (l : Launch) (w : zW) (σ : Nat → Nat → Int) (h48 : bd σ 48 7 0 6) (m0 : Nat) (hm : m0 ≤ 7) : zMi l w LL CC g_md_setOf rm_md_setOf [.ref (w.1 32), .int (zI ((m0 : Int)))] σ (((soF σ m0 : Nat) : Int)) (σ) := by
  refine zMi.of g_md_setOf (by decide +kernel) (Nat.le_of_ble_eq_true rfl) rfl ?_
  intro p e u m args below meth c C hr
  have C : zC p u m args meth c prog_7_method_17_code 4 "RoundPlansModel" w LL CC := C
  have hr : meth.sig.returnType = (some .int) := hr
  show V p l e rm_md_setOf u m args below meth c 4 w LL CC 0 0 (MQ below (zQi w LL CC (((soF σ m0 : Nat) : Int)) (σ) u.heap.size) args u 0 0 (zA w LL.1 u.heap.size)) 0 [(0, .ref (w.1 32)), (1, .int (zI ((m0 : Int))))] [] σ
  refine V_iconst C d_md_setOf_0 ?_
  refine V_istore_n (lv' := [(2, _), (0, _), (1, _)]) C d_md_setOf_1 (by decide) rfl ?_
  refine V_iconst C d_md_setOf_2 ?_
  refine V_istore_n (lv' := [(3, _), (2, _), (0, _), (1, _)]) C d_md_setOf_3 (by decide) rfl ?_
  refine V_sub (lv' := [(3, _), (2, _), (0, _), (1, _)]) [0, 1, 2, 3] rfl ?_
  refine loopUp (n := m0) (P := fun k => V p l e rm_md_setOf u m args below meth c 4 w LL CC 0 0 (MQ below (zQi w LL CC (((soF σ m0 : Nat) : Int)) (σ) u.heap.size) args u 0 0 (zA w LL.1 u.heap.size)) 4 [(3, .int (zI ((k : Int)))), (2, .int (zI (((soF σ k : Nat) : Int)))), (0, .ref (w.1 32)), (1, .int (zI ((m0 : Int))))] [] (σ)) (fun k hik ihk => ?_) 0 (Nat.zero_le _)
  show V p l e rm_md_setOf u m args below meth c 4 w LL CC 0 0 (MQ below (zQi w LL CC (((soF σ m0 : Nat) : Int)) (σ) u.heap.size) args u 0 0 (zA w LL.1 u.heap.size)) 4 [(3, .int (zI ((k : Int)))), (2, .int (zI (((soF σ k : Nat) : Int)))), (0, .ref (w.1 32)), (1, .int (zI ((m0 : Int))))] [] (σ)
  refine V_iload_n C d_md_setOf_4 0 rfl ?_
  refine V_iload_n C d_md_setOf_5 3 rfl ?_
  refine V_cmpge C 26 d_md_setOf_6 (by decide) ⟨by omega, by omega⟩ ⟨by omega, by omega⟩ (fun he => ?_) (fun he => ?_)
  · have hin : k = m0 := by omega
    subst hin
    refine V_iload_n C d_md_setOf_26 1 rfl ?_
    exact V_iret C hr d_md_setOf_27 rfl rfl
  · have hin : k < m0 := by omega
    have q48 := h48 k (by omega)
    have htr : tr σ k < 7 := by unfold tr; omega
    refine V_iload_n C d_md_setOf_9 1 rfl ?_
    refine V_iconst C d_md_setOf_10 ?_
    refine V_aload_n C d_md_setOf_11 2 rfl ?_
    refine V_getr C 32 17 48 (by decide) rfl rfl in_md (by decide) rfl wd_471 d_md_setOf_12 ?_
    refine V_iload_n C d_md_setOf_15 0 rfl ?_
    refine V_iald C 48 _ (by decide) rfl rfl (by omega) (by decide) d_md_setOf_16 ?_
    refine V_ti (b := ((tr σ k : Nat) : Int)) (by unfold tr; have := h48 k (by omega); omega) ?_
    refine V_ishl C (((2 ^ tr σ k : Nat) : Int)) d_md_setOf_17 (zI_shl1 (by omega)) ?_
    refine V_ior C (((soF σ (k + 1) : Nat) : Int)) d_md_setOf_18 zI_wi ?_
    refine V_istore_n (lv' := [(2, _), (3, _), (0, _), (1, _)]) C d_md_setOf_19 (by decide) rfl ?_
    refine V_iinc (lv' := [(3, _), (2, _), (0, _), (1, _)]) C d_md_setOf_20 1 rfl (by decide) rfl ?_
    refine V_goto C 4 d_md_setOf_23 (by decide) ?_
    refine V_sub (lv' := [(3, _), (2, _), (0, _), (1, _)]) [0, 1, 2, 3] rfl ?_
    exact ihk hin

set_option maxRecDepth 20000 in
set_option maxHeartbeats 4000000 in
theorem c_md_rowOf (l : Launch) (w : zW) (σ : Nat → Nat → Int) (h48 : bd σ 48 7 0 6) (m0 : Nat) (hm : m0 ≤ 7) : zMi l w LL CC g_md_rowOf rm_md_rowOf [.ref (w.1 32), .int (zI ((m0 : Int)))] σ (((roF σ m0 : Nat) : Int)) (σ) := by
  refine zMi.of g_md_rowOf (by decide +kernel) (Nat.le_of_ble_eq_true rfl) rfl ?_
  intro p e u m args below meth c C hr
  have C : zC p u m args meth c prog_7_method_18_code 4 "RoundPlansModel" w LL CC := C
  have hr : meth.sig.returnType = (some .int) := hr
  show V p l e rm_md_rowOf u m args below meth c 4 w LL CC 0 0 (MQ below (zQi w LL CC (((roF σ m0 : Nat) : Int)) (σ) u.heap.size) args u 0 0 (zA w LL.1 u.heap.size)) 0 [(0, .ref (w.1 32)), (1, .int (zI ((m0 : Int))))] [] σ
  refine V_iconst C d_md_rowOf_0 ?_
  refine V_istore_n (lv' := [(2, _), (0, _), (1, _)]) C d_md_rowOf_1 (by decide) rfl ?_
  refine V_iconst C d_md_rowOf_2 ?_
  refine V_istore_n (lv' := [(3, _), (2, _), (0, _), (1, _)]) C d_md_rowOf_3 (by decide) rfl ?_
  refine V_sub (lv' := [(3, _), (2, _), (0, _), (1, _)]) [0, 1, 2, 3] rfl ?_
  refine loopUp (n := m0) (P := fun k => V p l e rm_md_rowOf u m args below meth c 4 w LL CC 0 0 (MQ below (zQi w LL CC (((roF σ m0 : Nat) : Int)) (σ) u.heap.size) args u 0 0 (zA w LL.1 u.heap.size)) 4 [(3, .int (zI ((k : Int)))), (2, .int (zI (((roF σ k : Nat) : Int)))), (0, .ref (w.1 32)), (1, .int (zI ((m0 : Int))))] [] (σ)) (fun k hik ihk => ?_) 0 (Nat.zero_le _)
  show V p l e rm_md_rowOf u m args below meth c 4 w LL CC 0 0 (MQ below (zQi w LL CC (((roF σ m0 : Nat) : Int)) (σ) u.heap.size) args u 0 0 (zA w LL.1 u.heap.size)) 4 [(3, .int (zI ((k : Int)))), (2, .int (zI (((roF σ k : Nat) : Int)))), (0, .ref (w.1 32)), (1, .int (zI ((m0 : Int))))] [] (σ)
  refine V_iload_n C d_md_rowOf_4 0 rfl ?_
  refine V_iload_n C d_md_rowOf_5 3 rfl ?_
  refine V_cmpge C 28 d_md_rowOf_6 (by decide) ⟨by omega, by omega⟩ ⟨by omega, by omega⟩ (fun he => ?_) (fun he => ?_)
  · have hin : k = m0 := by omega
    subst hin
    refine V_iload_n C d_md_rowOf_28 1 rfl ?_
    exact V_iret C hr d_md_rowOf_29 rfl rfl
  · have hin : k < m0 := by omega
    have q48 := h48 k (by omega)
    have htr : tr σ k < 7 := by unfold tr; omega
    refine V_iload_n C d_md_rowOf_9 1 rfl ?_
    refine V_aload_n C d_md_rowOf_10 2 rfl ?_
    refine V_getr C 32 17 48 (by decide) rfl rfl in_md (by decide) rfl wd_471 d_md_rowOf_11 ?_
    refine V_iload_n C d_md_rowOf_14 0 rfl ?_
    refine V_iald C 48 _ (by decide) rfl rfl (by omega) (by decide) d_md_rowOf_15 ?_
    refine V_ti (b := ((tr σ k : Nat) : Int)) (by unfold tr; have := h48 k (by omega); omega) ?_
    refine V_iconst C d_md_rowOf_16 ?_
    refine V_iload_n C d_md_rowOf_17 0 rfl ?_
    refine V_imul C d_md_rowOf_18 ?_
    refine V_ti (b := ((3 * k : Nat) : Int)) (by omega) ?_
    refine V_ishl C (((tr σ k * 2 ^ (3 * k) : Nat) : Int)) d_md_rowOf_19 (zI_shl (by omega) (Nat.lt_of_le_of_lt (Nat.mul_le_mul (show tr σ k ≤ 7 by omega) (Nat.pow_le_pow_right (by decide) (show 3 * k ≤ 18 by omega))) (by decide))) ?_
    refine V_ior C (((roF σ (k + 1) : Nat) : Int)) d_md_rowOf_20 (zI_or _ _) ?_
    refine V_istore_n (lv' := [(2, _), (3, _), (0, _), (1, _)]) C d_md_rowOf_21 (by decide) rfl ?_
    refine V_iinc (lv' := [(3, _), (2, _), (0, _), (1, _)]) C d_md_rowOf_22 1 rfl (by decide) rfl ?_
    refine V_goto C 4 d_md_rowOf_25 (by decide) ?_
    refine V_sub (lv' := [(3, _), (2, _), (0, _), (1, _)]) [0, 1, 2, 3] rfl ?_
    exact ihk hin

set_option maxRecDepth 20000 in
set_option maxHeartbeats 4000000 in
theorem c_md_keep (l : Launch) (w : zW) (σ : Nat → Nat → Int) (n nv : Nat) (hM : mI σ n nv) (h48 : bd σ 48 7 0 6) (v m0 : Nat) (hv0 : v < 3) (hm : m0 ≤ 7) (h46 : bd σ 46 384 (-1) 150000) : zMv l w LL CC g_md_keep rm_md_keep [.ref (w.1 32), .int (zI ((v : Int))), .int (zI ((m0 : Int)))] σ (kpF σ v m0) := by
  refine zMv.of g_md_keep (by decide +kernel) (Nat.le_of_ble_eq_true rfl) rfl ?_
  intro p e u m args below meth c C hr
  have C : zC p u m args meth c prog_7_method_20_code 5 "RoundPlansModel" w LL CC := C
  have hr : meth.sig.returnType = none := hr
  obtain ⟨hn, hn7, hv, hv3, h33, h34, h35, h36, h37, h38, h39, h40, h41, h42, h43, h44, h45⟩ := id hM
  show V p l e rm_md_keep u m args below meth c 5 w LL CC 0 0 (MQ below (zQv w LL CC (kpF σ v m0) u.heap.size) args u 0 0 (zA w LL.1 u.heap.size)) 0 [(0, .ref (w.1 32)), (1, .int (zI ((v : Int)))), (2, .int (zI ((m0 : Int))))] [] σ
  refine V_aload_n C d_md_keep_0 0 rfl ?_
  refine V_iload_n C d_md_keep_1 1 rfl ?_
  refine V_iload_n C d_md_keep_2 2 rfl ?_
  refine V_callVi C 32 (by decide) rfl rfl (c_md_drive l w σ n nv hM h48 v m0 hv0 hm) wd_612 wd_614 ws_17 wd_7 wd_615 o_md_drive ⟨rfl, rfl, Nat.le_of_ble_eq_true rfl, Nat.le_of_ble_eq_true rfl⟩ rfl rfl (Nat.le_of_ble_eq_true rfl) d_md_keep_3 ⟨Nat.zero_le _, Nat.zero_le _⟩ ?_
  have hdr := drR_bd hM h48 hv0 hm
  have hso := soF_128 h48 m0 hm
  have q46 := h46 (128 * v + soF σ m0) (by omega)
  have k48 : bd (dbK σ v m0) 48 7 0 6 := by intro i hi; rw [dbK_ne (by decide)]; exact h48 i hi
  refine V_istore_n (lv' := [(3, _), (0, _), (1, _), (2, _)]) C d_md_keep_6 (by decide) rfl ?_
  refine V_sipush C d_md_keep_7 (by decide) ?_
  refine V_iload_n C d_md_keep_10 2 rfl ?_
  refine V_imul C d_md_keep_11 ?_
  refine V_aload_n C d_md_keep_12 1 rfl ?_
  refine V_iload_n C d_md_keep_13 3 rfl ?_
  refine V_callVi C 32 (by decide) rfl rfl (c_md_setOf l w (dbK σ v m0) k48 m0 hm) wd_616 wd_618 ws_18 wd_7 wd_619 o_md_setOf ⟨rfl, rfl, Nat.le_of_ble_eq_true rfl, Nat.le_of_ble_eq_true rfl⟩ rfl rfl (Nat.le_of_ble_eq_true rfl) d_md_keep_14 ⟨Nat.zero_le _, Nat.zero_le _⟩ ?_
  refine V_ti (b := ((soF σ m0 : Nat) : Int)) (by rw [soF_congr m0 (fun k _ => by rw [dbK_ne (by decide)])]) ?_
  refine V_iadd C d_md_keep_17 ?_
  refine V_ti (b := ((128 * v + soF σ m0 : Nat) : Int)) (by omega) ?_
  refine V_istore (lv' := [(4, _), (3, _), (0, _), (1, _), (2, _)]) C d_md_keep_18 (by decide) rfl ?_
  refine V_iload_n C d_md_keep_20 1 rfl ?_
  refine V_iflt C 65 d_md_keep_21 (by decide) ⟨by omega, by omega⟩ (fun g1 => ?_) (fun g1 => ?_)
  · exact V_vret C hr d_md_keep_65 (by unfold kpF; first | (rw [if_pos ⟨by omega, by omega⟩]) | (rw [if_neg (by omega)]))
  · refine V_aload_n C d_md_keep_24 2 rfl ?_
    refine V_getr C 32 15 46 (by decide) rfl rfl in_md (by decide) rfl wd_469 d_md_keep_25 ?_
    refine V_iload C d_md_keep_28 0 rfl ?_
    refine V_iald C 46 (128 * v + soF σ m0) (by decide) rfl rfl (by omega) (by decide) d_md_keep_30 ?_
    refine V_ti (b := σ 46 (128 * v + soF σ m0)) (by rw [dbK_ne (by decide)]) ?_
    refine V_iflt C 45 d_md_keep_31 (by decide) ⟨by omega, by omega⟩ (fun g2 => ?_) (fun g2 => ?_)
    · refine V_aload_n C d_md_keep_45 2 rfl ?_
      refine V_getr C 32 15 46 (by decide) rfl rfl in_md (by decide) rfl wd_469 d_md_keep_46 ?_
      refine V_iload C d_md_keep_49 0 rfl ?_
      refine V_iload_n C d_md_keep_51 1 rfl ?_
      refine V_iast C 46 (128 * v + soF σ m0) (by decide) rfl rfl (by omega) (by decide) d_md_keep_52 ?_
      have j48 : bd (zU (dbK σ v m0) 46 (128 * v + soF σ m0) (drR σ v m0)) 48 7 0 6 := by intro i hi; rw [zU_ne (by decide)]; exact k48 i hi
      refine V_aload_n C d_md_keep_53 2 rfl ?_
      refine V_getr C 32 16 47 (by decide) rfl rfl in_md (by decide) rfl wd_470 d_md_keep_54 ?_
      refine V_iload C d_md_keep_57 0 rfl ?_
      refine V_aload_n C d_md_keep_59 2 rfl ?_
      refine V_iload_n C d_md_keep_60 4 rfl ?_
      refine V_callVi C 32 (by decide) rfl rfl (c_md_rowOf l w _ j48 m0 hm) wd_620 wd_622 ws_19 wd_7 wd_623 o_md_rowOf ⟨rfl, rfl, Nat.le_of_ble_eq_true rfl, Nat.le_of_ble_eq_true rfl⟩ rfl rfl (Nat.le_of_ble_eq_true rfl) d_md_keep_61 ⟨Nat.zero_le _, Nat.zero_le _⟩ ?_
      refine V_ti (b := ((roF σ m0 : Nat) : Int)) (by rw [roF_congr m0 (fun k _ => by rw [zU_ne (by decide), dbK_ne (by decide)])]) ?_
      refine V_iast C 47 (128 * v + soF σ m0) (by decide) rfl rfl (by omega) (by decide) d_md_keep_64 ?_
      exact V_vret C hr d_md_keep_65 (by unfold kpF; first | (rw [if_pos ⟨by omega, by omega⟩]) | (rw [if_neg (by omega)]))
    · refine V_iload_n C d_md_keep_34 1 rfl ?_
      refine V_aload_n C d_md_keep_35 2 rfl ?_
      refine V_getr C 32 15 46 (by decide) rfl rfl in_md (by decide) rfl wd_469 d_md_keep_36 ?_
      refine V_iload C d_md_keep_39 0 rfl ?_
      refine V_iald C 46 (128 * v + soF σ m0) (by decide) rfl rfl (by omega) (by decide) d_md_keep_41 ?_
      refine V_ti (b := σ 46 (128 * v + soF σ m0)) (by rw [dbK_ne (by decide)]) ?_
      refine V_cmpge C 65 d_md_keep_42 (by decide) ⟨by omega, by omega⟩ ⟨by omega, by omega⟩ (fun g3 => ?_) (fun g3 => ?_)
      · exact V_vret C hr d_md_keep_65 (by unfold kpF; first | (rw [if_pos ⟨by omega, by omega⟩]) | (rw [if_neg (by omega)]))
      · refine V_aload_n C d_md_keep_45 2 rfl ?_
        refine V_getr C 32 15 46 (by decide) rfl rfl in_md (by decide) rfl wd_469 d_md_keep_46 ?_
        refine V_iload C d_md_keep_49 0 rfl ?_
        refine V_iload_n C d_md_keep_51 1 rfl ?_
        refine V_iast C 46 (128 * v + soF σ m0) (by decide) rfl rfl (by omega) (by decide) d_md_keep_52 ?_
        have j48 : bd (zU (dbK σ v m0) 46 (128 * v + soF σ m0) (drR σ v m0)) 48 7 0 6 := by intro i hi; rw [zU_ne (by decide)]; exact k48 i hi
        refine V_aload_n C d_md_keep_53 2 rfl ?_
        refine V_getr C 32 16 47 (by decide) rfl rfl in_md (by decide) rfl wd_470 d_md_keep_54 ?_
        refine V_iload C d_md_keep_57 0 rfl ?_
        refine V_aload_n C d_md_keep_59 2 rfl ?_
        refine V_iload_n C d_md_keep_60 4 rfl ?_
        refine V_callVi C 32 (by decide) rfl rfl (c_md_rowOf l w _ j48 m0 hm) wd_620 wd_622 ws_19 wd_7 wd_623 o_md_rowOf ⟨rfl, rfl, Nat.le_of_ble_eq_true rfl, Nat.le_of_ble_eq_true rfl⟩ rfl rfl (Nat.le_of_ble_eq_true rfl) d_md_keep_61 ⟨Nat.zero_le _, Nat.zero_le _⟩ ?_
        refine V_ti (b := ((roF σ m0 : Nat) : Int)) (by rw [roF_congr m0 (fun k _ => by rw [zU_ne (by decide), dbK_ne (by decide)])]) ?_
        refine V_iast C 47 (128 * v + soF σ m0) (by decide) rfl rfl (by omega) (by decide) d_md_keep_64 ?_
        exact V_vret C hr d_md_keep_65 (by unfold kpF; first | (rw [if_pos ⟨by omega, by omega⟩]) | (rw [if_neg (by omega)]))
