/-! Rounds: the contracts of the tables -/
set_option maxRecDepth 20000 in
set_option maxHeartbeats 4000000 in
theorem c_rd_firstBack (l : Launch) (w : zW) (σ : Nat → Nat → Int) (v S : Nat) (hv : v < 3) (hS : S < 128) : zMi l w LL CC g_rd_firstBack rm_rd_firstBack [.ref (w.1 17), .int (zI ((v : Int))), .int (zI ((S : Int)))] σ (σ 18 (v * 128 + S)) (σ) := by
  refine zMi.of g_rd_firstBack (by decide +kernel) (Nat.le_of_ble_eq_true rfl) rfl ?_
  intro p e u m args below meth c C hr
  have C : zC p u m args meth c prog_4_method_2_code 3 "RoundPlans$Rounds" w LL CC := C
  have hr : meth.sig.returnType = (some .int) := hr
  show V p l e rm_rd_firstBack u m args below meth c 3 w LL CC 0 0 (MQ below (zQi w LL CC (σ 18 (v * 128 + S)) (σ) u.heap.size) args u 0 0 (zA w LL.1 u.heap.size)) 0 [(0, .ref (w.1 17)), (1, .int (zI ((v : Int)))), (2, .int (zI ((S : Int))))] [] σ
  refine V_aload_n C d_rd_firstBack_0 0 rfl ?_
  refine V_getr C 17 1 18 (by decide) rfl rfl in_rd (by decide) rfl wd_120 d_rd_firstBack_1 ?_
  refine V_iload_n C d_rd_firstBack_4 1 rfl ?_
  refine V_sipush C d_rd_firstBack_5 (by decide) ?_
  refine V_imul C d_rd_firstBack_8 ?_
  refine V_iload_n C d_rd_firstBack_9 2 rfl ?_
  refine V_iadd C d_rd_firstBack_10 ?_
  refine V_iald C 18 (v * 128 + S) (by decide) rfl (by omega) (by omega) (by decide) d_rd_firstBack_11 ?_
  exact V_iret C hr d_rd_firstBack_12 rfl rfl

set_option maxRecDepth 20000 in
set_option maxHeartbeats 4000000 in
theorem c_rd_mayHave (l : Launch) (w : zW) (σ : Nat → Nat → Int) (n nv : Nat) (hT : tI σ n nv) (v S : Nat) (hv0 : v < 3) (hS : S < 128) : zMi l w LL CC g_rd_mayHave rm_rd_mayHave [.ref (w.1 17), .int (zI ((v : Int))), .int (zI ((S : Int)))] σ (zB (mayB σ n v S = true)) (σ) := by
  refine zMi.of g_rd_mayHave (by decide +kernel) (Nat.le_of_ble_eq_true rfl) rfl ?_
  intro p e u m args below meth c C hr
  have C : zC p u m args meth c prog_4_method_4_code 6 "RoundPlans$Rounds" w LL CC := C
  have hr : meth.sig.returnType = (some .boolean) := hr
  obtain ⟨hn, hn7, hv, hv3, h2, h3, h4, h5, h6, h7, h8, h9, h10, h11, h12, h13, h14, h15, h16⟩ := id hT
  show V p l e rm_rd_mayHave u m args below meth c 6 w LL CC 0 0 (MQ below (zQi w LL CC (zB (mayB σ n v S = true)) (σ) u.heap.size) args u 0 0 (zA w LL.1 u.heap.size)) 0 [(0, .ref (w.1 17)), (1, .int (zI ((v : Int)))), (2, .int (zI ((S : Int))))] [] σ
  refine V_iconst C d_rd_mayHave_0 ?_
  refine V_istore_n (lv' := [(3, _), (0, _), (1, _), (2, _)]) C d_rd_mayHave_1 (by decide) rfl ?_
  refine V_iconst C d_rd_mayHave_2 ?_
  refine V_istore (lv' := [(4, _), (3, _), (0, _), (1, _), (2, _)]) C d_rd_mayHave_3 (by decide) rfl ?_
  refine V_sub (lv' := [(4, _), (3, _), (0, _), (1, _), (2, _)]) [0, 1, 2, 3, 4] rfl ?_
  refine loopUp (n := n) (P := fun i => ∀ ld, mhF σ v S i = some ld → V p l e rm_rd_mayHave u m args below meth c 6 w LL CC 0 0 (MQ below (zQi w LL CC (zB (mayB σ n v S = true)) (σ) u.heap.size) args u 0 0 (zA w LL.1 u.heap.size)) 5 [(4, .int (zI (i : Int))), (3, .int (zI ld)), (0, .ref (w.1 17)), (1, .int (zI (v : Int))), (2, .int (zI (S : Int)))] [] σ) (fun i hii ihi => ?_) 0 (Nat.zero_le _) 0 rfl
  intro ld hld
  have hlb := mhF_bd h2 i (by omega) ld hld
  show V p l e rm_rd_mayHave u m args below meth c 6 w LL CC 0 0 (MQ below (zQi w LL CC (zB (mayB σ n v S = true)) (σ) u.heap.size) args u 0 0 (zA w LL.1 u.heap.size)) 5 [(4, .int (zI (i : Int))), (3, .int (zI ld)), (0, .ref (w.1 17)), (1, .int (zI (v : Int))), (2, .int (zI (S : Int)))] [] σ
  refine V_iload C d_rd_mayHave_5 0 rfl ?_
  refine V_aload_n C d_rd_mayHave_7 2 rfl ?_
  refine V_getr C 17 0 1 (by decide) rfl rfl in_rd (by decide) rfl wd_119 d_rd_mayHave_8 ?_
  refine V_geti C 1 0 (by decide) rfl rfl in_td (by decide) rfl wd_32 d_rd_mayHave_11 ?_
  refine V_ti hn ?_
  refine V_cmpge C 86 d_rd_mayHave_14 (by decide) ⟨by omega, by omega⟩ ⟨by omega, by omega⟩ (fun he => ?_) (fun he => ?_)
  · have hin : i = n := by omega
    subst hin
    refine V_iload_n C d_rd_mayHave_86 1 rfl ?_
    refine V_aload_n C d_rd_mayHave_87 2 rfl ?_
    refine V_getr C 17 0 1 (by decide) rfl rfl in_rd (by decide) rfl wd_119 d_rd_mayHave_88 ?_
    refine V_getr C 1 12 12 (by decide) rfl rfl in_td (by decide) rfl wd_66 d_rd_mayHave_91 ?_
    refine V_iload_n C d_rd_mayHave_94 3 rfl ?_
    refine V_iald C 12 _ (by decide) rfl rfl (by omega) (by decide) d_rd_mayHave_95 ?_
    have q12 := h12 v hv0
    refine V_cmpgt C 103 d_rd_mayHave_96 (by decide) ⟨by omega, by omega⟩ ⟨by omega, by omega⟩ (fun h2 => ?_) (fun h2 => ?_)
    · refine V_iconst C d_rd_mayHave_103 ?_
      exact V_zret C hr d_rd_mayHave_104 (by decide) (zB_f (by unfold mayB; rw [hld]; simp; omega)) rfl
    · refine V_iconst C d_rd_mayHave_99 ?_
      refine V_goto C 104 d_rd_mayHave_100 (by decide) ?_
      exact V_zret C hr d_rd_mayHave_104 (by decide) (zB_t (by unfold mayB; rw [hld]; simp; omega)) rfl
  · have hin : i < n := by omega
    refine V_iload_n C d_rd_mayHave_17 4 rfl ?_
    refine V_iload C d_rd_mayHave_18 0 rfl ?_
    refine V_callNi C (c_rp_holds l w σ S i hS (by omega)) ns_4 wd_285 wd_1 wd_286 o_rp_holds ⟨rfl, rfl, Nat.le_of_ble_eq_true rfl, Nat.le_of_ble_eq_true rfl⟩ rfl rfl (Nat.le_of_ble_eq_true rfl) d_rd_mayHave_20 ⟨Nat.zero_le _, Nat.zero_le _⟩ ?_
    refine V_ifeqB C 80 d_rd_mayHave_23 (by decide) (fun hb => ?_) (fun hb => ?_)
    · refine V_iinc (lv' := [(4, _), (3, _), (0, _), (1, _), (2, _)]) C d_rd_mayHave_80 0 rfl (by decide) rfl ?_
      refine V_goto C 5 d_rd_mayHave_83 (by decide) ?_
      refine V_sub (lv' := [(4, _), (3, _), (0, _), (1, _), (2, _)]) [0, 1, 2, 3, 4] rfl ?_
      first | exact ihi hin _ (mhF_f hld hb) | exact ihi hin _ (mhF_t hld hb (by intro z; rcases z with z | z; omega; exact z (by omega)))
    · refine V_aload_n C d_rd_mayHave_26 2 rfl ?_
      refine V_getr C 17 0 1 (by decide) rfl rfl in_rd (by decide) rfl wd_119 d_rd_mayHave_27 ?_
      refine V_getr C 1 7 7 (by decide) rfl rfl in_td (by decide) rfl wd_54 d_rd_mayHave_30 ?_
      refine V_iload C d_rd_mayHave_33 0 rfl ?_
      refine V_iald C 7 _ (by decide) rfl rfl (by omega) (by decide) d_rd_mayHave_35 ?_
      have q7 := h7 i (by omega)
      refine V_istore (lv' := [(5, _), (4, _), (3, _), (0, _), (1, _), (2, _)]) C d_rd_mayHave_36 (by decide) rfl ?_
      refine V_iload C d_rd_mayHave_38 0 rfl ?_
      refine V_iconst C d_rd_mayHave_40 ?_
      refine V_cmpeq C 50 d_rd_mayHave_41 (by decide) ⟨by omega, by omega⟩ ⟨by omega, by omega⟩ (fun f1 => ?_) (fun f1 => ?_)
      · refine V_aload_n C d_rd_mayHave_50 3 rfl ?_
        refine V_getr C 17 0 1 (by decide) rfl rfl in_rd (by decide) rfl wd_119 d_rd_mayHave_51 ?_
        refine V_getr C 1 8 8 (by decide) rfl rfl in_td (by decide) rfl wd_57 d_rd_mayHave_54 ?_
        refine V_iload C d_rd_mayHave_57 1 rfl ?_
        refine V_iald C 8 _ (by decide) rfl rfl (by omega) (by decide) d_rd_mayHave_59 ?_
        refine V_ti (b := (((σ 8 i).toNat : Nat) : Int)) (by have := h8 i (by omega); omega) ?_
        refine V_iload_n C d_rd_mayHave_60 5 rfl ?_
        refine V_iand C ((((σ 8 i).toNat &&& S : Nat) : Int)) d_rd_mayHave_61 (zI_and _ _) ?_
        have ha8 : (σ 8 i).toNat &&& S ≤ S := Nat.and_le_right
        refine V_ifeq C 67 d_rd_mayHave_62 (by decide) ⟨by omega, by omega⟩ (fun f3 => ?_) (fun f3 => ?_)
        · refine V_iload_n C d_rd_mayHave_67 2 rfl ?_
          refine V_aload_n C d_rd_mayHave_68 3 rfl ?_
          refine V_getr C 17 0 1 (by decide) rfl rfl in_rd (by decide) rfl wd_119 d_rd_mayHave_69 ?_
          refine V_getr C 1 2 2 (by decide) rfl rfl in_td (by decide) rfl wd_40 d_rd_mayHave_72 ?_
          refine V_iload C d_rd_mayHave_75 1 rfl ?_
          refine V_iald C 2 _ (by decide) rfl rfl (by omega) (by decide) d_rd_mayHave_77 ?_
          have q2 := h2 i (by omega)
          refine V_iadd C d_rd_mayHave_78 ?_
          refine V_istore_n (lv' := [(3, _), (5, _), (4, _), (0, _), (1, _), (2, _)]) C d_rd_mayHave_79 (by decide) rfl ?_
          refine V_iinc (lv' := [(4, _), (3, _), (5, _), (0, _), (1, _), (2, _)]) C d_rd_mayHave_80 2 rfl (by decide) rfl ?_
          refine V_goto C 5 d_rd_mayHave_83 (by decide) ?_
          refine V_sub (lv' := [(4, _), (3, _), (0, _), (1, _), (2, _)]) [0, 1, 3, 4, 5] rfl ?_
          first | exact ihi hin _ (mhF_f hld hb) | exact ihi hin _ (mhF_t hld hb (by intro z; rcases z with z | z; omega; exact z (by omega)))
        · refine V_iconst C d_rd_mayHave_65 ?_
          exact V_zret C hr d_rd_mayHave_66 (by decide) (zB_f (mayB_no hin hld hb (by first | exact Or.inl ⟨f1, f2⟩ | exact Or.inr (fun z => f3 (by omega))))) rfl
      · refine V_iload C d_rd_mayHave_44 0 rfl ?_
        refine V_iload_n C d_rd_mayHave_46 4 rfl ?_
        refine V_cmpne C 65 d_rd_mayHave_47 (by decide) ⟨by omega, by omega⟩ ⟨by omega, by omega⟩ (fun f2 => ?_) (fun f2 => ?_)
        · refine V_iconst C d_rd_mayHave_65 ?_
          exact V_zret C hr d_rd_mayHave_66 (by decide) (zB_f (mayB_no hin hld hb (by first | exact Or.inl ⟨f1, f2⟩ | exact Or.inr (fun z => f3 (by omega))))) rfl
        · refine V_aload_n C d_rd_mayHave_50 3 rfl ?_
          refine V_getr C 17 0 1 (by decide) rfl rfl in_rd (by decide) rfl wd_119 d_rd_mayHave_51 ?_
          refine V_getr C 1 8 8 (by decide) rfl rfl in_td (by decide) rfl wd_57 d_rd_mayHave_54 ?_
          refine V_iload C d_rd_mayHave_57 1 rfl ?_
          refine V_iald C 8 _ (by decide) rfl rfl (by omega) (by decide) d_rd_mayHave_59 ?_
          refine V_ti (b := (((σ 8 i).toNat : Nat) : Int)) (by have := h8 i (by omega); omega) ?_
          refine V_iload_n C d_rd_mayHave_60 5 rfl ?_
          refine V_iand C ((((σ 8 i).toNat &&& S : Nat) : Int)) d_rd_mayHave_61 (zI_and _ _) ?_
          have ha8 : (σ 8 i).toNat &&& S ≤ S := Nat.and_le_right
          refine V_ifeq C 67 d_rd_mayHave_62 (by decide) ⟨by omega, by omega⟩ (fun f3 => ?_) (fun f3 => ?_)
          · refine V_iload_n C d_rd_mayHave_67 2 rfl ?_
            refine V_aload_n C d_rd_mayHave_68 3 rfl ?_
            refine V_getr C 17 0 1 (by decide) rfl rfl in_rd (by decide) rfl wd_119 d_rd_mayHave_69 ?_
            refine V_getr C 1 2 2 (by decide) rfl rfl in_td (by decide) rfl wd_40 d_rd_mayHave_72 ?_
            refine V_iload C d_rd_mayHave_75 1 rfl ?_
            refine V_iald C 2 _ (by decide) rfl rfl (by omega) (by decide) d_rd_mayHave_77 ?_
            have q2 := h2 i (by omega)
            refine V_iadd C d_rd_mayHave_78 ?_
            refine V_istore_n (lv' := [(3, _), (5, _), (4, _), (0, _), (1, _), (2, _)]) C d_rd_mayHave_79 (by decide) rfl ?_
            refine V_iinc (lv' := [(4, _), (3, _), (5, _), (0, _), (1, _), (2, _)]) C d_rd_mayHave_80 2 rfl (by decide) rfl ?_
            refine V_goto C 5 d_rd_mayHave_83 (by decide) ?_
            refine V_sub (lv' := [(4, _), (3, _), (0, _), (1, _), (2, _)]) [0, 1, 3, 4, 5] rfl ?_
            first | exact ihi hin _ (mhF_f hld hb) | exact ihi hin _ (mhF_t hld hb (by intro z; rcases z with z | z; omega; exact z (by omega)))
          · refine V_iconst C d_rd_mayHave_65 ?_
            exact V_zret C hr d_rd_mayHave_66 (by decide) (zB_f (mayB_no hin hld hb (by first | exact Or.inl ⟨f1, f2⟩ | exact Or.inr (fun z => f3 (by omega))))) rfl

set_option maxRecDepth 20000 in
set_option maxHeartbeats 4000000 in
theorem c_rd_findReady (l : Launch) (w : zW) (σ : Nat → Nat → Int) (n nv : Nat) (hT : tI σ n nv) (hR : bd σ 19 896 0 1073741824) (v S : Nat) (hv0 : v < 3) (hS : S < 128) (s : Nat) (hs : s < n) : zMi l w LL CC g_rd_findReady rm_rd_findReady [.ref (w.1 17), .int (zI ((v : Int))), .int (zI ((S : Int))), .int (zI ((s : Int)))] σ (rdG σ n v S s) (σ) := by
  refine zMi.of g_rd_findReady (by decide +kernel) (Nat.le_of_ble_eq_true rfl) rfl ?_
  intro p e u m args below meth c C hr
  have C : zC p u m args meth c prog_4_method_6_code 8 "RoundPlans$Rounds" w LL CC := C
  have hr : meth.sig.returnType = (some .int) := hr
  obtain ⟨hn, hn7, hv, hv3, h2, h3, h4, h5, h6, h7, h8, h9, h10, h11, h12, h13, h14, h15, h16⟩ := id hT
  have hw := wo_128 hS (show s < 7 by omega)
  show V p l e rm_rd_findReady u m args below meth c 8 w LL CC 0 0 (MQ below (zQi w LL CC (rdG σ n v S s) (σ) u.heap.size) args u 0 0 (zA w LL.1 u.heap.size)) 0 [(0, .ref (w.1 17)), (1, .int (zI ((v : Int)))), (2, .int (zI ((S : Int)))), (3, .int (zI ((s : Int))))] [] σ
  refine V_iload_n C d_rd_findReady_0 2 rfl ?_
  refine V_iload_n C d_rd_findReady_1 3 rfl ?_
  refine V_callNi C (c_rp_without l w σ S s hS (by omega)) ns_5 wd_278 wd_1 wd_279 o_rp_without ⟨rfl, rfl, Nat.le_of_ble_eq_true rfl, Nat.le_of_ble_eq_true rfl⟩ rfl rfl (Nat.le_of_ble_eq_true rfl) d_rd_findReady_2 ⟨Nat.zero_le _, Nat.zero_le _⟩ ?_
  refine V_istore (lv' := [(4, _), (0, _), (1, _), (2, _), (3, _)]) C d_rd_findReady_5 (by decide) rfl ?_
  refine V_aload_n C d_rd_findReady_7 1 rfl ?_
  refine V_getr C 17 0 1 (by decide) rfl rfl in_rd (by decide) rfl wd_119 d_rd_findReady_8 ?_
  refine V_getr C 1 10 10 (by decide) rfl rfl in_td (by decide) rfl wd_61 d_rd_findReady_11 ?_
  refine V_iload_n C d_rd_findReady_14 4 rfl ?_
  refine V_iald C 10 _ (by decide) rfl rfl (by omega) (by decide) d_rd_findReady_15 ?_
  refine V_ti (b := (((σ 10 s).toNat : Nat) : Int)) (by have := h10 s (by omega); omega) ?_
  refine V_iload C d_rd_findReady_16 0 rfl ?_
  refine V_iand C ((((σ 10 s).toNat &&& wo S s : Nat) : Int)) d_rd_findReady_18 (zI_and _ _) ?_
  have ha8 : (σ 10 s).toNat &&& wo S s ≤ wo S s := Nat.and_le_right
  refine V_ifeq C 25 d_rd_findReady_19 (by decide) ⟨by omega, by omega⟩ (fun f1 => ?_) (fun f1 => ?_)
  · refine V_iload C d_rd_findReady_25 0 rfl ?_
    refine V_ifne C 53 d_rd_findReady_27 (by decide) ⟨by omega, by omega⟩ (fun f0 => ?_) (fun f0 => ?_)
    · refine V_ldc C (1073741824) d_rd_findReady_53 wd_309 ?_
      refine V_ti (b := if wo S s = 0 then σ 13 v + wyS σ 7 s else NV) (by first | (rw [if_pos (by omega)]; rfl) | (rw [if_neg (by omega)]; rfl)) ?_
      refine V_istore (lv' := [(5, _), (4, _), (0, _), (1, _), (2, _), (3, _)]) C d_rd_findReady_55 (by decide) rfl ?_
      refine V_iconst C d_rd_findReady_57 ?_
      refine V_istore (lv' := [(6, _), (5, _), (4, _), (0, _), (1, _), (2, _), (3, _)]) C d_rd_findReady_58 (by decide) rfl ?_
      refine V_sub (lv' := [(6, _), (5, _), (4, _), (0, _), (1, _), (2, _), (3, _)]) [0, 1, 2, 3, 4, 5, 6] rfl ?_
      refine loopUp (n := n) (P := fun i => V p l e rm_rd_findReady u m args below meth c 8 w LL CC 0 0 (MQ below (zQi w LL CC (rdG σ n v S s) (σ) u.heap.size) args u 0 0 (zA w LL.1 u.heap.size)) 60 [(6, .int (zI ((i : Int)))), (5, .int (zI (thG σ v S s i))), (4, .int (zI (((wo S s : Nat) : Int)))), (0, .ref (w.1 17)), (1, .int (zI ((v : Int)))), (2, .int (zI ((S : Int)))), (3, .int (zI ((s : Int))))] [] (σ)) (fun i hii ihi => ?_) 0 (Nat.zero_le _)
      show V p l e rm_rd_findReady u m args below meth c 8 w LL CC 0 0 (MQ below (zQi w LL CC (rdG σ n v S s) (σ) u.heap.size) args u 0 0 (zA w LL.1 u.heap.size)) 60 [(6, .int (zI ((i : Int)))), (5, .int (zI (thG σ v S s i))), (4, .int (zI (((wo S s : Nat) : Int)))), (0, .ref (w.1 17)), (1, .int (zI ((v : Int)))), (2, .int (zI ((S : Int)))), (3, .int (zI ((s : Int))))] [] (σ)
      refine V_iload C d_rd_findReady_60 0 rfl ?_
      refine V_aload_n C d_rd_findReady_62 3 rfl ?_
      refine V_getr C 17 0 1 (by decide) rfl rfl in_rd (by decide) rfl wd_119 d_rd_findReady_63 ?_
      refine V_geti C 1 0 (by decide) rfl rfl in_td (by decide) rfl wd_32 d_rd_findReady_66 ?_
      refine V_ti hn ?_
      refine V_cmpge C 123 d_rd_findReady_69 (by decide) ⟨by omega, by omega⟩ ⟨by omega, by omega⟩ (fun he => ?_) (fun he => ?_)
      · have hin : i = n := by omega
        subst hin
        refine V_iload C d_rd_findReady_123 1 rfl ?_
        refine V_aload_n C d_rd_findReady_125 3 rfl ?_
        refine V_getr C 17 0 1 (by decide) rfl rfl in_rd (by decide) rfl wd_119 d_rd_findReady_126 ?_
        refine V_getr C 1 4 4 (by decide) rfl rfl in_td (by decide) rfl wd_46 d_rd_findReady_129 ?_
        refine V_iload_n C d_rd_findReady_132 6 rfl ?_
        refine V_iald C 4 _ (by decide) rfl rfl (by omega) (by decide) d_rd_findReady_133 ?_
        have q0 := thG_bd hT hR hv0 hS (show s < 7 by omega) i (by omega)
        have q4 := h4 s (by omega)
        have q3 := h3 s (by omega)
        refine V_cmple C 140 d_rd_findReady_134 (by decide) ⟨by omega, by omega⟩ ⟨by omega, by omega⟩ (fun f2 => ?_) (fun f2 => ?_)
        · refine V_iload C d_rd_findReady_140 1 rfl ?_
          refine V_aload_n C d_rd_findReady_142 3 rfl ?_
          refine V_getr C 17 0 1 (by decide) rfl rfl in_rd (by decide) rfl wd_119 d_rd_findReady_143 ?_
          refine V_getr C 1 3 3 (by decide) rfl rfl in_td (by decide) rfl wd_43 d_rd_findReady_146 ?_
          refine V_iload_n C d_rd_findReady_149 6 rfl ?_
          refine V_iald C 3 _ (by decide) rfl rfl (by omega) (by decide) d_rd_findReady_150 ?_
          refine V_imax C wd_322 wd_323 wd_8 wd_324 (Nat.le_of_ble_eq_true rfl) (Nat.le_of_ble_eq_true rfl) (Nat.zero_le _) (Nat.zero_le _) ⟨by omega, by omega⟩ ⟨by omega, by omega⟩ d_rd_findReady_151 ?_
          refine V_aload_n C d_rd_findReady_154 3 rfl ?_
          refine V_getr C 17 0 1 (by decide) rfl rfl in_rd (by decide) rfl wd_119 d_rd_findReady_155 ?_
          refine V_getr C 1 5 5 (by decide) rfl rfl in_td (by decide) rfl wd_49 d_rd_findReady_158 ?_
          refine V_iload_n C d_rd_findReady_161 6 rfl ?_
          refine V_iald C 5 _ (by decide) rfl rfl (by omega) (by decide) d_rd_findReady_162 ?_
          refine V_iadd C d_rd_findReady_163 ?_
          exact V_iret C hr d_rd_findReady_164 (by unfold rdG; rw [if_neg (by omega), if_neg (by omega)]) rfl
        · refine V_ldc C (1073741824) d_rd_findReady_137 wd_309 ?_
          exact V_iret C hr d_rd_findReady_139 (by unfold rdG; rw [if_neg (by omega), if_pos (by omega)]; rfl) rfl
      · have hin : i < n := by omega
        refine V_iload C d_rd_findReady_72 2 rfl ?_
        refine V_iload C d_rd_findReady_74 0 rfl ?_
        refine V_callNi C (c_rp_holds l w σ (wo S s) i hw (by omega)) ns_4 wd_285 wd_1 wd_286 o_rp_holds ⟨rfl, rfl, Nat.le_of_ble_eq_true rfl, Nat.le_of_ble_eq_true rfl⟩ rfl rfl (Nat.le_of_ble_eq_true rfl) d_rd_findReady_76 ⟨Nat.zero_le _, Nat.zero_le _⟩ ?_
        refine V_ifeqB C 117 d_rd_findReady_79 (by decide) (fun hb => ?_) (fun hb => ?_)
        · refine V_iinc (lv' := [(6, _), (5, _), (4, _), (0, _), (1, _), (2, _), (3, _)]) C d_rd_findReady_117 0 rfl (by decide) rfl ?_
          refine V_goto C 60 d_rd_findReady_120 (by decide) ?_
          refine V_sub (lv' := [(6, _), (5, _), (4, _), (0, _), (1, _), (2, _), (3, _)]) [0, 1, 2, 3, 4, 5, 6] rfl ?_
          have h99 := ihi hin
          first | (rw [thG_f hb] at h99; exact h99) | (rw [thG_t hb] at h99; exact h99)
        · refine V_aload_n C d_rd_findReady_82 3 rfl ?_
          refine V_getr C 17 2 19 (by decide) rfl rfl in_rd (by decide) rfl wd_121 d_rd_findReady_83 ?_
          refine V_iload C d_rd_findReady_86 2 rfl ?_
          refine V_bipush C d_rd_findReady_88 (by decide) ?_
          refine V_imul C d_rd_findReady_90 ?_
          refine V_iload C d_rd_findReady_91 0 rfl ?_
          refine V_iadd C d_rd_findReady_93 ?_
          refine V_iald C 19 (wo S s * 7 + i) (by decide) rfl (by omega) (by omega) (by decide) d_rd_findReady_94 ?_
          refine V_aload_n C d_rd_findReady_95 3 rfl ?_
          refine V_getr C 17 0 1 (by decide) rfl rfl in_rd (by decide) rfl wd_119 d_rd_findReady_96 ?_
          refine V_iload C d_rd_findReady_99 0 rfl ?_
          refine V_iload_n C d_rd_findReady_101 6 rfl ?_
          refine V_callVi C 1 (by decide) rfl rfl (c_td_seconds l w σ i s (by omega) (by omega)) wd_315 wd_316 wd_317 wd_2 wd_318 o_td_seconds ⟨rfl, rfl, Nat.le_of_ble_eq_true rfl, Nat.le_of_ble_eq_true rfl⟩ rfl rfl (Nat.le_of_ble_eq_true rfl) d_rd_findReady_102 ⟨Nat.zero_le _, Nat.zero_le _⟩ ?_
          refine V_iadd C d_rd_findReady_105 ?_
          refine V_istore (lv' := [(7, _), (6, _), (5, _), (4, _), (0, _), (1, _), (2, _), (3, _)]) C d_rd_findReady_106 (by decide) rfl ?_
          refine V_iload C d_rd_findReady_108 2 rfl ?_
          refine V_iload C d_rd_findReady_110 0 rfl ?_
          have q0 := thG_bd hT hR hv0 hS (show s < 7 by omega) i (by omega)
          have q1 := hR (wo S s * 7 + i) (by omega)
          have q2 := h16 (i * 8 + s) (by omega)
          refine V_imin C wd_319 wd_320 wd_8 wd_321 (Nat.le_of_ble_eq_true rfl) (Nat.le_of_ble_eq_true rfl) (Nat.zero_le _) (Nat.zero_le _) ⟨by omega, by omega⟩ ⟨by omega, by omega⟩ d_rd_findReady_112 ?_
          refine V_istore (lv' := [(5, _), (7, _), (6, _), (4, _), (0, _), (1, _), (2, _), (3, _)]) C d_rd_findReady_115 (by decide) rfl ?_
          refine V_iinc (lv' := [(6, _), (5, _), (7, _), (4, _), (0, _), (1, _), (2, _), (3, _)]) C d_rd_findReady_117 2 rfl (by decide) rfl ?_
          refine V_goto C 60 d_rd_findReady_120 (by decide) ?_
          refine V_sub (lv' := [(6, _), (5, _), (4, _), (0, _), (1, _), (2, _), (3, _)]) [0, 1, 3, 4, 5, 6, 7] rfl ?_
          have h99 := ihi hin
          first | (rw [thG_f hb] at h99; exact h99) | (rw [thG_t hb] at h99; exact h99)
    · refine V_aload_n C d_rd_findReady_30 1 rfl ?_
      refine V_getr C 17 0 1 (by decide) rfl rfl in_rd (by decide) rfl wd_119 d_rd_findReady_31 ?_
      refine V_getr C 1 13 13 (by decide) rfl rfl in_td (by decide) rfl wd_69 d_rd_findReady_34 ?_
      refine V_iload_n C d_rd_findReady_37 2 rfl ?_
      refine V_iald C 13 _ (by decide) rfl rfl (by omega) (by decide) d_rd_findReady_38 ?_
      refine V_aload_n C d_rd_findReady_39 1 rfl ?_
      refine V_getr C 17 0 1 (by decide) rfl rfl in_rd (by decide) rfl wd_119 d_rd_findReady_40 ?_
      refine V_bipush C d_rd_findReady_43 (by decide) ?_
      refine V_iload_n C d_rd_findReady_45 4 rfl ?_
      refine V_callVi C 1 (by decide) rfl rfl (c_td_seconds l w σ 7 s (by omega) (by omega)) wd_315 wd_316 wd_317 wd_2 wd_318 o_td_seconds ⟨rfl, rfl, Nat.le_of_ble_eq_true rfl, Nat.le_of_ble_eq_true rfl⟩ rfl rfl (Nat.le_of_ble_eq_true rfl) d_rd_findReady_46 ⟨Nat.zero_le _, Nat.zero_le _⟩ ?_
      refine V_iadd C d_rd_findReady_49 ?_
      refine V_goto C 55 d_rd_findReady_50 (by decide) ?_
      refine V_ti (b := if wo S s = 0 then σ 13 v + wyS σ 7 s else NV) (by first | (rw [if_pos (by omega)]; rfl) | (rw [if_neg (by omega)]; rfl)) ?_
      refine V_istore (lv' := [(5, _), (4, _), (0, _), (1, _), (2, _), (3, _)]) C d_rd_findReady_55 (by decide) rfl ?_
      refine V_iconst C d_rd_findReady_57 ?_
      refine V_istore (lv' := [(6, _), (5, _), (4, _), (0, _), (1, _), (2, _), (3, _)]) C d_rd_findReady_58 (by decide) rfl ?_
      refine V_sub (lv' := [(6, _), (5, _), (4, _), (0, _), (1, _), (2, _), (3, _)]) [0, 1, 2, 3, 4, 5, 6] rfl ?_
      refine loopUp (n := n) (P := fun i => V p l e rm_rd_findReady u m args below meth c 8 w LL CC 0 0 (MQ below (zQi w LL CC (rdG σ n v S s) (σ) u.heap.size) args u 0 0 (zA w LL.1 u.heap.size)) 60 [(6, .int (zI ((i : Int)))), (5, .int (zI (thG σ v S s i))), (4, .int (zI (((wo S s : Nat) : Int)))), (0, .ref (w.1 17)), (1, .int (zI ((v : Int)))), (2, .int (zI ((S : Int)))), (3, .int (zI ((s : Int))))] [] (σ)) (fun i hii ihi => ?_) 0 (Nat.zero_le _)
      show V p l e rm_rd_findReady u m args below meth c 8 w LL CC 0 0 (MQ below (zQi w LL CC (rdG σ n v S s) (σ) u.heap.size) args u 0 0 (zA w LL.1 u.heap.size)) 60 [(6, .int (zI ((i : Int)))), (5, .int (zI (thG σ v S s i))), (4, .int (zI (((wo S s : Nat) : Int)))), (0, .ref (w.1 17)), (1, .int (zI ((v : Int)))), (2, .int (zI ((S : Int)))), (3, .int (zI ((s : Int))))] [] (σ)
      refine V_iload C d_rd_findReady_60 0 rfl ?_
      refine V_aload_n C d_rd_findReady_62 3 rfl ?_
      refine V_getr C 17 0 1 (by decide) rfl rfl in_rd (by decide) rfl wd_119 d_rd_findReady_63 ?_
      refine V_geti C 1 0 (by decide) rfl rfl in_td (by decide) rfl wd_32 d_rd_findReady_66 ?_
      refine V_ti hn ?_
      refine V_cmpge C 123 d_rd_findReady_69 (by decide) ⟨by omega, by omega⟩ ⟨by omega, by omega⟩ (fun he => ?_) (fun he => ?_)
      · have hin : i = n := by omega
        subst hin
        refine V_iload C d_rd_findReady_123 1 rfl ?_
        refine V_aload_n C d_rd_findReady_125 3 rfl ?_
        refine V_getr C 17 0 1 (by decide) rfl rfl in_rd (by decide) rfl wd_119 d_rd_findReady_126 ?_
        refine V_getr C 1 4 4 (by decide) rfl rfl in_td (by decide) rfl wd_46 d_rd_findReady_129 ?_
        refine V_iload_n C d_rd_findReady_132 6 rfl ?_
        refine V_iald C 4 _ (by decide) rfl rfl (by omega) (by decide) d_rd_findReady_133 ?_
        have q0 := thG_bd hT hR hv0 hS (show s < 7 by omega) i (by omega)
        have q4 := h4 s (by omega)
        have q3 := h3 s (by omega)
        refine V_cmple C 140 d_rd_findReady_134 (by decide) ⟨by omega, by omega⟩ ⟨by omega, by omega⟩ (fun f2 => ?_) (fun f2 => ?_)
        · refine V_iload C d_rd_findReady_140 1 rfl ?_
          refine V_aload_n C d_rd_findReady_142 3 rfl ?_
          refine V_getr C 17 0 1 (by decide) rfl rfl in_rd (by decide) rfl wd_119 d_rd_findReady_143 ?_
          refine V_getr C 1 3 3 (by decide) rfl rfl in_td (by decide) rfl wd_43 d_rd_findReady_146 ?_
          refine V_iload_n C d_rd_findReady_149 6 rfl ?_
          refine V_iald C 3 _ (by decide) rfl rfl (by omega) (by decide) d_rd_findReady_150 ?_
          refine V_imax C wd_322 wd_323 wd_8 wd_324 (Nat.le_of_ble_eq_true rfl) (Nat.le_of_ble_eq_true rfl) (Nat.zero_le _) (Nat.zero_le _) ⟨by omega, by omega⟩ ⟨by omega, by omega⟩ d_rd_findReady_151 ?_
          refine V_aload_n C d_rd_findReady_154 3 rfl ?_
          refine V_getr C 17 0 1 (by decide) rfl rfl in_rd (by decide) rfl wd_119 d_rd_findReady_155 ?_
          refine V_getr C 1 5 5 (by decide) rfl rfl in_td (by decide) rfl wd_49 d_rd_findReady_158 ?_
          refine V_iload_n C d_rd_findReady_161 6 rfl ?_
          refine V_iald C 5 _ (by decide) rfl rfl (by omega) (by decide) d_rd_findReady_162 ?_
          refine V_iadd C d_rd_findReady_163 ?_
          exact V_iret C hr d_rd_findReady_164 (by unfold rdG; rw [if_neg (by omega), if_neg (by omega)]) rfl
        · refine V_ldc C (1073741824) d_rd_findReady_137 wd_309 ?_
          exact V_iret C hr d_rd_findReady_139 (by unfold rdG; rw [if_neg (by omega), if_pos (by omega)]; rfl) rfl
      · have hin : i < n := by omega
        refine V_iload C d_rd_findReady_72 2 rfl ?_
        refine V_iload C d_rd_findReady_74 0 rfl ?_
        refine V_callNi C (c_rp_holds l w σ (wo S s) i hw (by omega)) ns_4 wd_285 wd_1 wd_286 o_rp_holds ⟨rfl, rfl, Nat.le_of_ble_eq_true rfl, Nat.le_of_ble_eq_true rfl⟩ rfl rfl (Nat.le_of_ble_eq_true rfl) d_rd_findReady_76 ⟨Nat.zero_le _, Nat.zero_le _⟩ ?_
        refine V_ifeqB C 117 d_rd_findReady_79 (by decide) (fun hb => ?_) (fun hb => ?_)
        · refine V_iinc (lv' := [(6, _), (5, _), (4, _), (0, _), (1, _), (2, _), (3, _)]) C d_rd_findReady_117 0 rfl (by decide) rfl ?_
          refine V_goto C 60 d_rd_findReady_120 (by decide) ?_
          refine V_sub (lv' := [(6, _), (5, _), (4, _), (0, _), (1, _), (2, _), (3, _)]) [0, 1, 2, 3, 4, 5, 6] rfl ?_
          have h99 := ihi hin
          first | (rw [thG_f hb] at h99; exact h99) | (rw [thG_t hb] at h99; exact h99)
        · refine V_aload_n C d_rd_findReady_82 3 rfl ?_
          refine V_getr C 17 2 19 (by decide) rfl rfl in_rd (by decide) rfl wd_121 d_rd_findReady_83 ?_
          refine V_iload C d_rd_findReady_86 2 rfl ?_
          refine V_bipush C d_rd_findReady_88 (by decide) ?_
          refine V_imul C d_rd_findReady_90 ?_
          refine V_iload C d_rd_findReady_91 0 rfl ?_
          refine V_iadd C d_rd_findReady_93 ?_
          refine V_iald C 19 (wo S s * 7 + i) (by decide) rfl (by omega) (by omega) (by decide) d_rd_findReady_94 ?_
          refine V_aload_n C d_rd_findReady_95 3 rfl ?_
          refine V_getr C 17 0 1 (by decide) rfl rfl in_rd (by decide) rfl wd_119 d_rd_findReady_96 ?_
          refine V_iload C d_rd_findReady_99 0 rfl ?_
          refine V_iload_n C d_rd_findReady_101 6 rfl ?_
          refine V_callVi C 1 (by decide) rfl rfl (c_td_seconds l w σ i s (by omega) (by omega)) wd_315 wd_316 wd_317 wd_2 wd_318 o_td_seconds ⟨rfl, rfl, Nat.le_of_ble_eq_true rfl, Nat.le_of_ble_eq_true rfl⟩ rfl rfl (Nat.le_of_ble_eq_true rfl) d_rd_findReady_102 ⟨Nat.zero_le _, Nat.zero_le _⟩ ?_
          refine V_iadd C d_rd_findReady_105 ?_
          refine V_istore (lv' := [(7, _), (6, _), (5, _), (4, _), (0, _), (1, _), (2, _), (3, _)]) C d_rd_findReady_106 (by decide) rfl ?_
          refine V_iload C d_rd_findReady_108 2 rfl ?_
          refine V_iload C d_rd_findReady_110 0 rfl ?_
          have q0 := thG_bd hT hR hv0 hS (show s < 7 by omega) i (by omega)
          have q1 := hR (wo S s * 7 + i) (by omega)
          have q2 := h16 (i * 8 + s) (by omega)
          refine V_imin C wd_319 wd_320 wd_8 wd_321 (Nat.le_of_ble_eq_true rfl) (Nat.le_of_ble_eq_true rfl) (Nat.zero_le _) (Nat.zero_le _) ⟨by omega, by omega⟩ ⟨by omega, by omega⟩ d_rd_findReady_112 ?_
          refine V_istore (lv' := [(5, _), (7, _), (6, _), (4, _), (0, _), (1, _), (2, _), (3, _)]) C d_rd_findReady_115 (by decide) rfl ?_
          refine V_iinc (lv' := [(6, _), (5, _), (7, _), (4, _), (0, _), (1, _), (2, _), (3, _)]) C d_rd_findReady_117 2 rfl (by decide) rfl ?_
          refine V_goto C 60 d_rd_findReady_120 (by decide) ?_
          refine V_sub (lv' := [(6, _), (5, _), (4, _), (0, _), (1, _), (2, _), (3, _)]) [0, 1, 3, 4, 5, 6, 7] rfl ?_
          have h99 := ihi hin
          first | (rw [thG_f hb] at h99; exact h99) | (rw [thG_t hb] at h99; exact h99)
  · refine V_ldc C (1073741824) d_rd_findReady_22 wd_309 ?_
    exact V_iret C hr d_rd_findReady_24 (by unfold rdG; rw [if_pos (by omega)]; rfl) rfl

set_option maxRecDepth 20000 in
set_option maxHeartbeats 4000000 in
theorem c_rd_findBack (l : Launch) (w : zW) (σ : Nat → Nat → Int) (n nv : Nat) (hT : tI σ n nv) (hR : bd σ 19 896 0 1073741824) (v S : Nat) (hv0 : v < 3) (hS : S < 128) : zMi l w LL CC g_rd_findBack rm_rd_findBack [.ref (w.1 17), .int (zI ((v : Int))), .int (zI ((S : Int)))] σ (fbR σ n v S) (fbS σ n v S n) := by
  refine zMi.of g_rd_findBack (by decide +kernel) (Nat.le_of_ble_eq_true rfl) rfl ?_
  intro p e u m args below meth c C hr
  have C : zC p u m args meth c prog_4_method_5_code 6 "RoundPlans$Rounds" w LL CC := C
  have hr : meth.sig.returnType = (some .int) := hr
  obtain ⟨hn, hn7, hv, hv3, h2, h3, h4, h5, h6, h7, h8, h9, h10, h11, h12, h13, h14, h15, h16⟩ := id hT
  show V p l e rm_rd_findBack u m args below meth c 6 w LL CC 0 0 (MQ below (zQi w LL CC (fbR σ n v S) (fbS σ n v S n) u.heap.size) args u 0 0 (zA w LL.1 u.heap.size)) 0 [(0, .ref (w.1 17)), (1, .int (zI ((v : Int)))), (2, .int (zI ((S : Int))))] [] σ
  refine V_ldc C (1073741824) d_rd_findBack_0 wd_309 ?_
  refine V_istore_n (lv' := [(3, _), (0, _), (1, _), (2, _)]) C d_rd_findBack_2 (by decide) rfl ?_
  refine V_iconst C d_rd_findBack_3 ?_
  refine V_istore (lv' := [(4, _), (3, _), (0, _), (1, _), (2, _)]) C d_rd_findBack_4 (by decide) rfl ?_
  refine V_sub (lv' := [(4, _), (3, _), (0, _), (1, _), (2, _)]) [0, 1, 2, 3, 4] rfl ?_
  refine loopUp (n := n) (P := fun i => V p l e rm_rd_findBack u m args below meth c 6 w LL CC 0 0 (MQ below (zQi w LL CC (fbR σ n v S) (fbS σ n v S n) u.heap.size) args u 0 0 (zA w LL.1 u.heap.size)) 6 [(4, .int (zI ((i : Int)))), (3, .int (zI (fbB σ n v S i))), (0, .ref (w.1 17)), (1, .int (zI ((v : Int)))), (2, .int (zI ((S : Int))))] [] (fbS σ n v S i)) (fun i hii ihi => ?_) 0 (Nat.zero_le _)
  show V p l e rm_rd_findBack u m args below meth c 6 w LL CC 0 0 (MQ below (zQi w LL CC (fbR σ n v S) (fbS σ n v S n) u.heap.size) args u 0 0 (zA w LL.1 u.heap.size)) 6 [(4, .int (zI ((i : Int)))), (3, .int (zI (fbB σ n v S i))), (0, .ref (w.1 17)), (1, .int (zI ((v : Int)))), (2, .int (zI ((S : Int))))] [] (fbS σ n v S i)
  refine V_iload C d_rd_findBack_6 0 rfl ?_
  refine V_aload_n C d_rd_findBack_8 2 rfl ?_
  refine V_getr C 17 0 1 (by decide) rfl rfl in_rd (by decide) rfl wd_119 d_rd_findBack_9 ?_
  refine V_geti C 1 0 (by decide) rfl rfl in_td (by decide) rfl wd_32 d_rd_findBack_12 ?_
  refine V_ti (b := (n : Int)) (by rw [fbS_ne (by decide)]; exact hn) ?_
  refine V_cmpge C 76 d_rd_findBack_15 (by decide) ⟨by omega, by omega⟩ ⟨by omega, by omega⟩ (fun he => ?_) (fun he => ?_)
  · have hin : i = n := by omega
    subst hin
    have q0 := fbB_bd hT hR hv0 hS i (by omega)
    have q14 := h14 v hv0
    refine V_iload_n C d_rd_findBack_76 1 rfl ?_
    refine V_aload_n C d_rd_findBack_77 2 rfl ?_
    refine V_getr C 17 0 1 (by decide) rfl rfl in_rd (by decide) rfl wd_119 d_rd_findBack_78 ?_
    refine V_getr C 1 14 14 (by decide) rfl rfl in_td (by decide) rfl wd_71 d_rd_findBack_81 ?_
    refine V_iload_n C d_rd_findBack_84 3 rfl ?_
    refine V_iald C 14 _ (by decide) rfl rfl (by omega) (by decide) d_rd_findBack_85 ?_
    refine V_ti (b := σ 14 v) (by rw [fbS_ne (by decide)]) ?_
    refine V_cmpgt C 93 d_rd_findBack_86 (by decide) ⟨by omega, by omega⟩ ⟨by omega, by omega⟩ (fun f2 => ?_) (fun f2 => ?_)
    · refine V_ldc C (1073741824) d_rd_findBack_93 wd_309 ?_
      exact V_iret C hr d_rd_findBack_95 (by unfold fbR; rw [if_neg (by omega)]; rfl) rfl
    · refine V_iload_n C d_rd_findBack_89 1 rfl ?_
      refine V_goto C 95 d_rd_findBack_90 (by decide) ?_
      exact V_iret C hr d_rd_findBack_95 (by unfold fbR; rw [if_pos (by omega)]) rfl
  · have hin : i < n := by omega
    have hTi : tI (fbS σ n v S i) n nv := hT.congr (fun k hk => fbS_ne (by omega) i)
    refine V_iload_n C d_rd_findBack_18 4 rfl ?_
    refine V_iload C d_rd_findBack_19 0 rfl ?_
    refine V_callNi C (c_rp_holds l w _ S i hS (by omega)) ns_4 wd_285 wd_1 wd_286 o_rp_holds ⟨rfl, rfl, Nat.le_of_ble_eq_true rfl, Nat.le_of_ble_eq_true rfl⟩ rfl rfl (Nat.le_of_ble_eq_true rfl) d_rd_findBack_21 ⟨Nat.zero_le _, Nat.zero_le _⟩ ?_
    refine V_ifeqB C 70 d_rd_findBack_24 (by decide) (fun hb => ?_) (fun hb => ?_)
    · refine V_iinc (lv' := [(4, _), (3, _), (0, _), (1, _), (2, _)]) C d_rd_findBack_70 0 rfl (by decide) rfl ?_
      refine V_goto C 6 d_rd_findBack_73 (by decide) ?_
      refine V_sub (lv' := [(4, _), (3, _), (0, _), (1, _), (2, _)]) [0, 1, 2, 3, 4] rfl ?_
      have h99 := ihi hin
      first | (rw [fbB_f hb, fbS_f hb] at h99; exact h99) | (rw [fbB_t hb, fbS_t hb] at h99; exact h99)
    · refine V_aload_n C d_rd_findBack_27 2 rfl ?_
      refine V_iload_n C d_rd_findBack_28 3 rfl ?_
      refine V_iload_n C d_rd_findBack_29 4 rfl ?_
      refine V_iload C d_rd_findBack_30 0 rfl ?_
      refine V_callVi C 17 (by decide) rfl rfl (c_rd_findReady l w (fbS σ n v S i) n nv hTi (fbS_bd hT hR hv0 hS i (by omega)) v S hv0 hS i hin) wd_310 wd_312 ws_2 wd_4 wd_313 o_rd_findReady ⟨rfl, rfl, Nat.le_of_ble_eq_true rfl, Nat.le_of_ble_eq_true rfl⟩ rfl rfl (Nat.le_of_ble_eq_true rfl) d_rd_findBack_32 ⟨Nat.zero_le _, Nat.zero_le _⟩ ?_
      refine V_ti (fbS_rd hn7 hb i) ?_
      refine V_istore (lv' := [(5, _), (4, _), (3, _), (0, _), (1, _), (2, _)]) C d_rd_findBack_35 (by decide) rfl ?_
      refine V_aload_n C d_rd_findBack_37 3 rfl ?_
      refine V_getr C 17 2 19 (by decide) rfl rfl in_rd (by decide) rfl wd_121 d_rd_findBack_38 ?_
      refine V_iload_n C d_rd_findBack_41 5 rfl ?_
      refine V_bipush C d_rd_findBack_42 (by decide) ?_
      refine V_imul C d_rd_findBack_44 ?_
      refine V_iload C d_rd_findBack_45 1 rfl ?_
      refine V_iadd C d_rd_findBack_47 ?_
      refine V_iload C d_rd_findBack_48 0 rfl ?_
      refine V_iast C 19 (S * 7 + i) (by decide) rfl (by omega) (by omega) (by decide) d_rd_findBack_50 ?_
      refine V_iload_n C d_rd_findBack_51 2 rfl ?_
      refine V_iload C d_rd_findBack_52 0 rfl ?_
      refine V_aload_n C d_rd_findBack_54 3 rfl ?_
      refine V_getr C 17 0 1 (by decide) rfl rfl in_rd (by decide) rfl wd_119 d_rd_findBack_55 ?_
      refine V_iload C d_rd_findBack_58 1 rfl ?_
      refine V_bipush C d_rd_findBack_60 (by decide) ?_
      refine V_callVi C 1 (by decide) rfl rfl (c_td_seconds l w _ i 7 (by omega) (by omega)) wd_315 wd_316 wd_317 wd_2 wd_318 o_td_seconds ⟨rfl, rfl, Nat.le_of_ble_eq_true rfl, Nat.le_of_ble_eq_true rfl⟩ rfl rfl (Nat.le_of_ble_eq_true rfl) d_rd_findBack_62 ⟨Nat.zero_le _, Nat.zero_le _⟩ ?_
      refine V_ti (b := wyS σ i 7) (by show fbS σ n v S i 16 _ = _; rw [fbS_ne (by decide)]; rfl) ?_
      refine V_iadd C d_rd_findBack_65 ?_
      have q0 := fbB_bd hT hR hv0 hS i (by omega)
      have q1 := rdG_bd (s := i) hT hR hv0 hS (by omega)
      have q2 : 0 ≤ wyS σ i 7 ∧ wyS σ i 7 ≤ 50000 := h16 (i * 8 + 7) (by omega)
      refine V_imin C wd_319 wd_320 wd_8 wd_321 (Nat.le_of_ble_eq_true rfl) (Nat.le_of_ble_eq_true rfl) (Nat.zero_le _) (Nat.zero_le _) ⟨by omega, by omega⟩ ⟨by omega, by omega⟩ d_rd_findBack_66 ?_
      refine V_istore_n (lv' := [(3, _), (5, _), (4, _), (0, _), (1, _), (2, _)]) C d_rd_findBack_69 (by decide) rfl ?_
      refine V_iinc (lv' := [(4, _), (3, _), (5, _), (0, _), (1, _), (2, _)]) C d_rd_findBack_70 2 rfl (by decide) rfl ?_
      refine V_goto C 6 d_rd_findBack_73 (by decide) ?_
      refine V_sub (lv' := [(4, _), (3, _), (0, _), (1, _), (2, _)]) [0, 1, 3, 4, 5] rfl ?_
      have h99 := ihi hin
      first | (rw [fbB_f hb, fbS_f hb] at h99; exact h99) | (rw [fbB_t hb, fbS_t hb] at h99; exact h99)

set_option maxRecDepth 20000 in
set_option maxHeartbeats 4000000 in
theorem c_rd_findBacks (l : Launch) (w : zW) (σ : Nat → Nat → Int) (n nv : Nat) (hT : tI σ n nv) (hR : bd σ 19 896 0 1073741824) : zMv l w LL CC g_rd_findBacks rm_rd_findBacks [.ref (w.1 17)] σ (bkO σ n nv) := by
  refine zMv.of g_rd_findBacks (by decide +kernel) (Nat.le_of_ble_eq_true rfl) rfl ?_
  intro p e u m args below meth c C hr
  have C : zC p u m args meth c prog_4_method_3_code 4 "RoundPlans$Rounds" w LL CC := C
  have hr : meth.sig.returnType = none := hr
  obtain ⟨hn, hn7, hv, hv3, h2, h3, h4, h5, h6, h7, h8, h9, h10, h11, h12, h13, h14, h15, h16⟩ := id hT
  have hp := pow_n hn7
  show V p l e rm_rd_findBacks u m args below meth c 4 w LL CC 0 0 (MQ below (zQv w LL CC (bkO σ n nv) u.heap.size) args u 0 0 (zA w LL.1 u.heap.size)) 0 [(0, .ref (w.1 17))] [] σ
  refine V_iconst C d_rd_findBacks_0 ?_
  refine V_istore_n (lv' := [(1, _), (0, _)]) C d_rd_findBacks_1 (by decide) rfl ?_
  refine V_sub (lv' := [(1, _), (0, _)]) [0, 1] rfl ?_
  refine loopUp (n := nv) (P := fun x => V p l e rm_rd_findBacks u m args below meth c 4 w LL CC 0 0 (MQ below (zQv w LL CC (bkO σ n nv) u.heap.size) args u 0 0 (zA w LL.1 u.heap.size)) 2 [(1, .int (zI ((x : Int)))), (0, .ref (w.1 17))] [] (bkO σ n x)) (fun x hix ihx => ?_) 0 (Nat.zero_le _)
  show V p l e rm_rd_findBacks u m args below meth c 4 w LL CC 0 0 (MQ below (zQv w LL CC (bkO σ n nv) u.heap.size) args u 0 0 (zA w LL.1 u.heap.size)) 2 [(1, .int (zI ((x : Int)))), (0, .ref (w.1 17))] [] (bkO σ n x)
  refine V_iload_n C d_rd_findBacks_2 0 rfl ?_
  refine V_aload_n C d_rd_findBacks_3 1 rfl ?_
  refine V_getr C 17 0 1 (by decide) rfl rfl in_rd (by decide) rfl wd_119 d_rd_findBacks_4 ?_
  refine V_geti C 1 1 (by decide) rfl rfl in_td (by decide) rfl wd_36 d_rd_findBacks_7 ?_
  refine V_ti (b := (nv : Int)) (by rw [bkO_ne (by decide) (by decide)]; exact hv) ?_
  refine V_cmpge C 74 d_rd_findBacks_10 (by decide) ⟨by omega, by omega⟩ ⟨by omega, by omega⟩ (fun he => ?_) (fun he => ?_)
  · have hix : x = nv := by omega
    subst hix
    exact V_vret C hr d_rd_findBacks_74 rfl
  · have hix : x < nv := by omega
    have hTx : tI (bkO σ n x) n nv := hT.congr (fun k hk => bkO_ne (by omega) (by omega) x)
    have hRx := bkO_bd hT hR x (by omega)
    refine V_iconst C d_rd_findBacks_13 ?_
    refine V_istore_n (lv' := [(2, _), (1, _), (0, _)]) C d_rd_findBacks_14 (by decide) rfl ?_
    refine V_sub (lv' := [(2, _), (1, _), (0, _)]) [0, 1, 2] rfl ?_
    refine loopUp (n := 2 ^ n - 1) (P := fun j => V p l e rm_rd_findBacks u m args below meth c 4 w LL CC 0 0 (MQ below (zQv w LL CC (bkO σ n nv) u.heap.size) args u 0 0 (zA w LL.1 u.heap.size)) 15 [(2, .int (zI (((j + 1 : Nat) : Int)))), (1, .int (zI ((x : Int)))), (0, .ref (w.1 17))] [] (bkI (bkO σ n x) n x j)) (fun j hij ihj => ?_) 0 (Nat.zero_le _)
    show V p l e rm_rd_findBacks u m args below meth c 4 w LL CC 0 0 (MQ below (zQv w LL CC (bkO σ n nv) u.heap.size) args u 0 0 (zA w LL.1 u.heap.size)) 15 [(2, .int (zI (((j + 1 : Nat) : Int)))), (1, .int (zI ((x : Int)))), (0, .ref (w.1 17))] [] (bkI (bkO σ n x) n x j)
    refine V_iload_n C d_rd_findBacks_15 0 rfl ?_
    refine V_iconst C d_rd_findBacks_16 ?_
    refine V_aload_n C d_rd_findBacks_17 2 rfl ?_
    refine V_getr C 17 0 1 (by decide) rfl rfl in_rd (by decide) rfl wd_119 d_rd_findBacks_18 ?_
    refine V_geti C 1 0 (by decide) rfl rfl in_td (by decide) rfl wd_32 d_rd_findBacks_21 ?_
    refine V_ti (b := (n : Int)) (by rw [bkI_ne (by decide) (by decide), bkO_ne (by decide) (by decide)]; exact hn) ?_
    refine V_ishl C (((2 ^ n : Nat) : Int)) d_rd_findBacks_24 (zI_shl1 (by omega)) ?_
    refine V_cmpge C 68 d_rd_findBacks_25 (by decide) ⟨by omega, by omega⟩ ⟨by omega, by omega⟩ (fun hj => ?_) (fun hj => ?_)
    · have hjj : j = 2 ^ n - 1 := by omega
      refine V_iinc (lv' := [(1, _), (2, _), (0, _)]) C d_rd_findBacks_68 1 rfl (by decide) rfl ?_
      refine V_goto C 2 d_rd_findBacks_71 (by decide) ?_
      refine V_sub (lv' := [(1, _), (0, _)]) [0, 2] rfl ?_
      subst hjj
      exact ihx hix
    · have hjn : j < 2 ^ n - 1 := by omega
      have hTj : tI (bkI (bkO σ n x) n x j) n nv := hTx.congr (fun k hk => bkI_ne (by omega) (by omega) j)
      have hRj := bkI_bd hTx hRx (show x < 3 by omega) j (by omega)
      refine V_aload_n C d_rd_findBacks_28 2 rfl ?_
      refine V_iload_n C d_rd_findBacks_29 1 rfl ?_
      refine V_iload_n C d_rd_findBacks_30 0 rfl ?_
      refine V_callVi C 17 (by decide) rfl rfl (c_rd_mayHave l w _ n nv hTj x (j + 1) (by omega) (by omega)) wd_300 wd_302 ws_0 wd_4 wd_303 o_rd_mayHave ⟨rfl, rfl, Nat.le_of_ble_eq_true rfl, Nat.le_of_ble_eq_true rfl⟩ rfl rfl (Nat.le_of_ble_eq_true rfl) d_rd_findBacks_31 ⟨Nat.zero_le _, Nat.zero_le _⟩ ?_
      refine V_istore_n (lv' := [(3, _), (2, _), (1, _), (0, _)]) C d_rd_findBacks_34 (by decide) rfl ?_
      refine V_aload_n C d_rd_findBacks_35 3 rfl ?_
      refine V_getr C 17 1 18 (by decide) rfl rfl in_rd (by decide) rfl wd_120 d_rd_findBacks_36 ?_
      refine V_iload_n C d_rd_findBacks_39 2 rfl ?_
      refine V_sipush C d_rd_findBacks_40 (by decide) ?_
      refine V_imul C d_rd_findBacks_43 ?_
      refine V_iload_n C d_rd_findBacks_44 1 rfl ?_
      refine V_iadd C d_rd_findBacks_45 ?_
      refine V_iload_n C d_rd_findBacks_46 0 rfl ?_
      refine V_ifeqB C 59 d_rd_findBacks_47 (by decide) (fun hm => ?_) (fun hm => ?_)
      · refine V_ldc C (1073741824) d_rd_findBacks_59 wd_309 ?_
        refine V_iast C 18 (x * 128 + (j + 1)) (by decide) rfl (by omega) (by omega) (by decide) d_rd_findBacks_61 ?_
        refine V_iinc (lv' := [(2, _), (3, _), (1, _), (0, _)]) C d_rd_findBacks_62 1 rfl (by decide) rfl ?_
        refine V_goto C 15 d_rd_findBacks_65 (by decide) ?_
        refine V_sub (lv' := [(2, _), (1, _), (0, _)]) [0, 2, 3] rfl ?_
        have h99 := ihj hjn
        first | (rw [bkI, if_neg hm] at h99; exact h99) | (rw [bkI, if_pos hm] at h99; exact h99)
      · refine V_aload_n C d_rd_findBacks_50 3 rfl ?_
        refine V_iload_n C d_rd_findBacks_51 2 rfl ?_
        refine V_iload_n C d_rd_findBacks_52 1 rfl ?_
        refine V_callVi C 17 (by decide) rfl rfl (c_rd_findBack l w _ n nv hTj hRj x (j + 1) (by omega) (by omega)) wd_305 wd_307 ws_1 wd_4 wd_308 o_rd_findBack ⟨rfl, rfl, Nat.le_of_ble_eq_true rfl, Nat.le_of_ble_eq_true rfl⟩ rfl rfl (Nat.le_of_ble_eq_true rfl) d_rd_findBacks_53 ⟨Nat.zero_le _, Nat.zero_le _⟩ ?_
        refine V_goto C 61 d_rd_findBacks_56 (by decide) ?_
        refine V_iast C 18 (x * 128 + (j + 1)) (by decide) rfl (by omega) (by omega) (by decide) d_rd_findBacks_61 ?_
        refine V_iinc (lv' := [(2, _), (3, _), (1, _), (0, _)]) C d_rd_findBacks_62 1 rfl (by decide) rfl ?_
        refine V_goto C 15 d_rd_findBacks_65 (by decide) ?_
        refine V_sub (lv' := [(2, _), (1, _), (0, _)]) [0, 2, 3] rfl ?_
        have h99 := ihj hjn
        first | (rw [bkI, if_neg hm] at h99; exact h99) | (rw [bkI, if_pos hm] at h99; exact h99)
