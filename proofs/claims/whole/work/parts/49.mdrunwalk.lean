/-! the reference's run: the contracts -/
set_option maxRecDepth 20000 in
set_option maxHeartbeats 4000000 in
theorem c_md_tellRound (l : Launch) (w : zW) (σ : Nat → Nat → Int) (n nv : Nat) (hM : mI σ n nv) (h48 : bd σ 48 7 0 6) (h47 : bd σ 47 384 0 2097151) (hw : rwI σ) (v S : Nat) (hv0 : v < 3) (hS : S < 128) : zMv l w LL CC g_md_tellRound rm_md_tellRound [.ref (w.1 32), .int (zI ((v : Int))), .int (zI ((S : Int)))] σ (tlF σ n v S) := by
  refine zMv.of g_md_tellRound (by decide +kernel) (Nat.le_of_ble_eq_true rfl) rfl ?_
  intro p e u m args below meth c C hr
  have C : zC p u m args meth c prog_7_method_26_code 4 "RoundPlansModel" w LL CC := C
  have hr : meth.sig.returnType = none := hr
  obtain ⟨hn, hn7, hv, hv3, h33, h34, h35, h36, h37, h38, h39, h40, h41, h42, h43, h44, h45⟩ := id hM
  have q47 := h47 (128 * v + S) (by omega)
  have hcn : cnt (fun i => S.testBit i) n ≤ n := cnt_le _ n
  have hMB : mI (tlB σ n v S) n nv := hM.congr (by rw [tlB_ne (by decide) (by decide) (by decide) (by decide)]) (by rw [tlB_ne (by decide) (by decide) (by decide) (by decide)]) (fun k k1 k2 => tlB_ne (by omega) (by omega) (by omega) (by omega))
  show V p l e rm_md_tellRound u m args below meth c 4 w LL CC 0 0 (MQ below (zQv w LL CC (tlF σ n v S) u.heap.size) args u 0 0 (zA w LL.1 u.heap.size)) 0 [(0, .ref (w.1 32)), (1, .int (zI ((v : Int)))), (2, .int (zI ((S : Int))))] [] σ
  refine V_aload_n C d_md_tellRound_0 0 rfl ?_
  refine V_getr C 32 25 52 (by decide) rfl rfl in_md (by decide) rfl wd_479 d_md_tellRound_1 ?_
  refine V_iload_n C d_md_tellRound_4 1 rfl ?_
  refine V_iconst C d_md_tellRound_5 ?_
  refine V_iast C 52 v (by decide) rfl rfl (by omega) (by decide) d_md_tellRound_6 ?_
  refine V_iconst C d_md_tellRound_7 ?_
  refine V_istore_n (lv' := [(3, _), (0, _), (1, _), (2, _)]) C d_md_tellRound_8 (by decide) rfl ?_
  refine V_sub (lv' := [(3, _), (0, _), (1, _), (2, _)]) [0, 1, 2, 3] rfl ?_
  refine loopUp (n := n) (P := fun k => V p l e rm_md_tellRound u m args below meth c 4 w LL CC 0 0 (MQ below (zQv w LL CC (tlF σ n v S) u.heap.size) args u 0 0 (zA w LL.1 u.heap.size)) 9 [(3, .int (zI ((k : Int)))), (0, .ref (w.1 32)), (1, .int (zI ((v : Int)))), (2, .int (zI ((S : Int))))] [] (tcK σ v S k)) (fun k hik ihk => ?_) 0 (Nat.zero_le _)
  show V p l e rm_md_tellRound u m args below meth c 4 w LL CC 0 0 (MQ below (zQv w LL CC (tlF σ n v S) u.heap.size) args u 0 0 (zA w LL.1 u.heap.size)) 9 [(3, .int (zI ((k : Int)))), (0, .ref (w.1 32)), (1, .int (zI ((v : Int)))), (2, .int (zI ((S : Int))))] [] (tcK σ v S k)
  refine V_iload_n C d_md_tellRound_9 0 rfl ?_
  refine V_aload_n C d_md_tellRound_10 1 rfl ?_
  refine V_geti C 32 0 (by decide) rfl rfl in_md (by decide) rfl wd_454 d_md_tellRound_11 ?_
  refine V_ti (b := (n : Int)) (by unfold tcK; rw [zU_ne (by decide)]; exact hn) ?_
  refine V_cmpge C 37 d_md_tellRound_14 (by decide) ⟨by omega, by omega⟩ ⟨by omega, by omega⟩ (fun he => ?_) (fun he => ?_)
  · have hkn : k = n := by omega
    rw [hkn]
    refine V_aload_n C d_md_tellRound_37 1 rfl ?_
    refine V_getr C 32 26 53 (by decide) rfl rfl in_md (by decide) rfl wd_480 d_md_tellRound_38 ?_
    refine V_iload_n C d_md_tellRound_41 2 rfl ?_
    refine V_iconst C d_md_tellRound_42 ?_
    refine V_iast C 53 v (by decide) rfl rfl (by omega) (by decide) d_md_tellRound_43 ?_
    refine V_iload_n C d_md_tellRound_44 3 rfl ?_
    refine V_ifeq C 120 d_md_tellRound_45 (by decide) ⟨by omega, by omega⟩ (fun g0 => ?_) (fun g0 => ?_)
    · exact V_vret C hr d_md_tellRound_120 (by unfold tlF; first | (rw [if_pos (by omega)]; rfl) | (rw [if_neg (by omega)]))
    · refine V_aload_n C d_md_tellRound_48 1 rfl ?_
      refine V_getr C 32 24 51 (by decide) rfl rfl in_md (by decide) rfl wd_478 d_md_tellRound_49 ?_
      refine V_iload_n C d_md_tellRound_52 2 rfl ?_
      refine V_aload_n C d_md_tellRound_53 1 rfl ?_
      refine V_getr C 32 16 47 (by decide) rfl rfl in_md (by decide) rfl wd_470 d_md_tellRound_54 ?_
      refine V_sipush C d_md_tellRound_57 (by decide) ?_
      refine V_iload_n C d_md_tellRound_60 2 rfl ?_
      refine V_imul C d_md_tellRound_61 ?_
      refine V_iload_n C d_md_tellRound_62 3 rfl ?_
      refine V_iadd C d_md_tellRound_63 ?_
      refine V_iald C 47 (128 * v + S) (by decide) rfl (by omega) (by omega) (by decide) d_md_tellRound_64 ?_
      refine V_ti (b := σ 47 (128 * v + S)) (by unfold tcK; rw [zU_ne (by decide), zU_ne (by decide)]) ?_
      refine V_iast C 51 v (by decide) rfl rfl (by omega) (by decide) d_md_tellRound_65 ?_
      refine V_iconst C d_md_tellRound_66 ?_
      refine V_istore_n (lv' := [(3, _), (0, _), (1, _), (2, _)]) C d_md_tellRound_67 (by decide) rfl ?_
      refine V_sub (lv' := [(3, _), (0, _), (1, _), (2, _)]) [0, 1, 2, 3] rfl ?_
      refine loopUp (n := cnt (fun i => S.testBit i) n) (P := fun k => V p l e rm_md_tellRound u m args below meth c 4 w LL CC 0 0 (MQ below (zQv w LL CC (tlF σ n v S) u.heap.size) args u 0 0 (zA w LL.1 u.heap.size)) 68 [(3, .int (zI ((k : Int)))), (0, .ref (w.1 32)), (1, .int (zI ((v : Int)))), (2, .int (zI ((S : Int))))] [] (ttK (zU (tlA σ n v S) 51 v (σ 47 (128 * v + S))) (σ 47 (128 * v + S)).toNat k)) (fun k hik ihk => ?_) 0 (Nat.zero_le _)
      show V p l e rm_md_tellRound u m args below meth c 4 w LL CC 0 0 (MQ below (zQv w LL CC (tlF σ n v S) u.heap.size) args u 0 0 (zA w LL.1 u.heap.size)) 68 [(3, .int (zI ((k : Int)))), (0, .ref (w.1 32)), (1, .int (zI ((v : Int)))), (2, .int (zI ((S : Int))))] [] (ttK (zU (tlA σ n v S) 51 v (σ 47 (128 * v + S))) (σ 47 (128 * v + S)).toNat k)
      refine V_iload_n C d_md_tellRound_68 0 rfl ?_
      refine V_aload_n C d_md_tellRound_69 1 rfl ?_
      refine V_getr C 32 25 52 (by decide) rfl rfl in_md (by decide) rfl wd_479 d_md_tellRound_70 ?_
      refine V_iload_n C d_md_tellRound_73 2 rfl ?_
      refine V_iald C 52 v (by decide) rfl rfl (by omega) (by decide) d_md_tellRound_74 ?_
      refine V_ti (b := ((cnt (fun i => S.testBit i) n : Nat) : Int)) (by rw [ttK_ne (by decide), zU_ne (by decide)]; unfold tlA tcK; rw [zU_ne (by decide), zU_self]) ?_
      refine V_cmpge C 103 d_md_tellRound_75 (by decide) ⟨by omega, by omega⟩ ⟨by omega, by omega⟩ (fun hf => ?_) (fun hf => ?_)
      · have hkc : k = cnt (fun i => S.testBit i) n := by omega
        rw [hkc]
        refine V_aload_n C d_md_tellRound_103 1 rfl ?_
        refine V_getr C 32 26 53 (by decide) rfl rfl in_md (by decide) rfl wd_480 d_md_tellRound_104 ?_
        refine V_iload_n C d_md_tellRound_107 2 rfl ?_
        refine V_aload_n C d_md_tellRound_108 1 rfl ?_
        refine V_iload_n C d_md_tellRound_109 2 rfl ?_
        refine V_aload_n C d_md_tellRound_110 1 rfl ?_
        refine V_getr C 32 25 52 (by decide) rfl rfl in_md (by decide) rfl wd_479 d_md_tellRound_111 ?_
        refine V_iload_n C d_md_tellRound_114 2 rfl ?_
        refine V_iald C 52 v (by decide) rfl rfl (by omega) (by decide) d_md_tellRound_115 ?_
        refine V_ti (b := ((cnt (fun i => S.testBit i) n : Nat) : Int)) (by rw [ttK_ne (by decide), zU_ne (by decide)]; unfold tlA tcK; rw [zU_ne (by decide), zU_self]) ?_
        refine V_callVi C 32 (by decide) rfl rfl (c_md_drive l w (tlB σ n v S) n nv hMB (tlB_48 hw hv0 hS h48) v (cnt (fun i => S.testBit i) n) hv0 (by omega)) wd_612 wd_614 ws_17 wd_7 wd_615 o_md_drive ⟨rfl, rfl, Nat.le_of_ble_eq_true rfl, Nat.le_of_ble_eq_true rfl⟩ rfl rfl (Nat.le_of_ble_eq_true rfl) d_md_tellRound_116 ⟨Nat.zero_le _, Nat.zero_le _⟩ ?_
        refine V_iast C 53 v (by decide) rfl rfl (by omega) (by decide) d_md_tellRound_119 ?_
        exact V_vret C hr d_md_tellRound_120 (by unfold tlF; first | (rw [if_pos (by omega)]; rfl) | (rw [if_neg (by omega)]))
      · have hkc : k < cnt (fun i => S.testBit i) n := by omega
        refine V_aload_n C d_md_tellRound_78 1 rfl ?_
        refine V_getr C 32 17 48 (by decide) rfl rfl in_md (by decide) rfl wd_471 d_md_tellRound_79 ?_
        refine V_iload_n C d_md_tellRound_82 0 rfl ?_
        refine V_aload_n C d_md_tellRound_83 1 rfl ?_
        refine V_getr C 32 24 51 (by decide) rfl rfl in_md (by decide) rfl wd_478 d_md_tellRound_84 ?_
        refine V_iload_n C d_md_tellRound_87 2 rfl ?_
        refine V_iald C 51 v (by decide) rfl rfl (by omega) (by decide) d_md_tellRound_88 ?_
        refine V_ti (b := (((σ 47 (128 * v + S)).toNat : Nat) : Int)) (by rw [ttK_ne (by decide), zU_self]; omega) ?_
        refine V_iconst C d_md_tellRound_89 ?_
        refine V_iload_n C d_md_tellRound_90 0 rfl ?_
        refine V_imul C d_md_tellRound_91 ?_
        refine V_ti (b := ((3 * k : Nat) : Int)) (by omega) ?_
        refine V_ishr C ((((σ 47 (128 * v + S)).toNat / 2 ^ (3 * k) : Nat) : Int)) d_md_tellRound_92 (zI_shr (by omega) (by omega)) ?_
        refine V_bipush C d_md_tellRound_93 (by decide) ?_
        refine V_iand C (((d8 (σ 47 (128 * v + S)).toNat k : Nat) : Int)) d_md_tellRound_95 ((zI_and _ 7).trans (by rw [and_7]; rfl)) ?_
        refine V_iast C 48 k (by decide) rfl rfl (by omega) (by decide) d_md_tellRound_96 ?_
        refine V_iinc (lv' := [(3, _), (0, _), (1, _), (2, _)]) C d_md_tellRound_97 0 rfl (by decide) rfl ?_
        refine V_goto C 68 d_md_tellRound_100 (by decide) ?_
        refine V_sub (lv' := [(3, _), (0, _), (1, _), (2, _)]) [0, 1, 2, 3] rfl ?_
        exact ihk hkc
  · have hkn : k < n := by omega
    refine V_aload_n C d_md_tellRound_17 1 rfl ?_
    refine V_getr C 32 25 52 (by decide) rfl rfl in_md (by decide) rfl wd_479 d_md_tellRound_18 ?_
    refine V_iload_n C d_md_tellRound_21 2 rfl ?_
    refine V_dup2 C d_md_tellRound_22 rfl rfl ?_
    refine V_iald C 52 v (by decide) rfl rfl (by omega) (by decide) d_md_tellRound_23 ?_
    refine V_ti (b := ((cnt (fun i => S.testBit i) k : Nat) : Int)) (by unfold tcK; rw [zU_self]) ?_
    refine V_iload_n C d_md_tellRound_24 3 rfl ?_
    refine V_iload_n C d_md_tellRound_25 0 rfl ?_
    refine V_ishr C (((S / 2 ^ k : Nat) : Int)) d_md_tellRound_26 (zI_shr (by omega) (by omega)) ?_
    refine V_iconst C d_md_tellRound_27 ?_
    refine V_iand C (((S / 2 ^ k &&& 1 : Nat) : Int)) d_md_tellRound_28 (zI_and _ 1) ?_
    refine V_iadd C d_md_tellRound_29 ?_
    refine V_ti (b := ((cnt (fun i => S.testBit i) (k + 1) : Nat) : Int)) (by rw [cnt_s, bit_n]; omega) ?_
    refine V_iast C 52 v (by decide) rfl rfl (by omega) (by decide) d_md_tellRound_30 ?_
    refine V_ss zU_uu ?_
    refine V_iinc (lv' := [(3, _), (0, _), (1, _), (2, _)]) C d_md_tellRound_31 0 rfl (by decide) rfl ?_
    refine V_goto C 9 d_md_tellRound_34 (by decide) ?_
    refine V_sub (lv' := [(3, _), (0, _), (1, _), (2, _)]) [0, 1, 2, 3] rfl ?_
    exact ihk hkn

set_option maxRecDepth 20000 in
set_option maxHeartbeats 4000000 in
theorem c_md_run (l : Launch) (w : zW) (σ : Nat → Nat → Int) (n nv : Nat) (hM : mI σ n nv) (h48 : bd σ 48 7 0 6) (h46 : bd σ 46 384 (-1) 150000) (h47 : bd σ 47 384 0 2097151) (hw : rwI σ) : zMi l w LL CC g_md_run rm_md_run [.ref (w.1 32)] σ (((cnt (fun i => decide (dg (bpN (daF σ n nv) n nv (-1)) i = 3)) n : Nat) : Int)) (mdF σ n nv) := by
  refine zMi.of g_md_run (by decide +kernel) (Nat.le_of_ble_eq_true rfl) rfl ?_
  intro p e u m args below meth c C hr
  have C : zC p u m args meth c prog_7_method_25_code 4 "RoundPlansModel" w LL CC := C
  have hr : meth.sig.returnType = (some .int) := hr
  obtain ⟨hn, hn7, hv, hv3, h33, h34, h35, h36, h37, h38, h39, h40, h41, h42, h43, h44, h45⟩ := id hM
  have hall := fun x hx => daF_all hM h48 h46 h47 hw x hx
  obtain ⟨hMA, a48, a46, a47, aw⟩ := hall nv hv3
  obtain ⟨hb1, hb2⟩ := bpN_ok (r := -1) hMA a46
  have hMs : ∀ x, mI (svF (daF σ n nv) n nv (bpN (daF σ n nv) n nv (-1)) x) n nv := fun x => hMA.congr (by rw [svF_32]; rfl) (by rw [svF_32]; rfl) (fun k k1 k2 => svF_ne (by omega) (by omega) x)
  have s46 : ∀ x, bd (svF (daF σ n nv) n nv (bpN (daF σ n nv) n nv (-1)) x) 46 384 (-1) 150000 := fun x i hi => by rw [svF_ne (by decide) (by decide)]; exact a46 i hi
  have hMv : ∀ k, mI (vhF (svF (daF σ n nv) n nv (bpN (daF σ n nv) n nv (-1)) nv) (bpN (daF σ n nv) n nv (-1)) k) n nv := fun k => (hMs nv).congr (by rw [vhF_ne (by decide) (by decide)]) (by rw [vhF_ne (by decide) (by decide)]) (fun h h1 h2 => vhF_ne (by omega) (by omega) k)
  have hMt : ∀ x, mI (tlO (vhF (svF (daF σ n nv) n nv (bpN (daF σ n nv) n nv (-1)) nv) (bpN (daF σ n nv) n nv (-1)) n) n (bpN (daF σ n nv) n nv (-1)) x) n nv := fun x => (hMv n).congr (by rw [tlO_ne (by decide) (by decide) (by decide) (by decide) (by decide)]) (by rw [tlO_ne (by decide) (by decide) (by decide) (by decide) (by decide)]) (fun h h1 h2 => tlO_ne (by omega) (by omega) (by omega) (by omega) (by omega) x)
  have vw : rwI (vhF (svF (daF σ n nv) n nv (bpN (daF σ n nv) n nv (-1)) nv) (bpN (daF σ n nv) n nv (-1)) n) := fun i hi k => by rw [vhF_ne (by decide) (by decide), svF_ne (by decide) (by decide)]; exact aw i hi k
  have v48 : bd (vhF (svF (daF σ n nv) n nv (bpN (daF σ n nv) n nv (-1)) nv) (bpN (daF σ n nv) n nv (-1)) n) 48 7 0 6 := fun i hi => by rw [vhF_ne (by decide) (by decide), svF_ne (by decide) (by decide)]; exact a48 i hi
  have t48 := fun x hx => tlO_48 (b := bpN (daF σ n nv) n nv (-1)) hn7 vw v48 x hx
  have t47 : ∀ x, bd (tlO (vhF (svF (daF σ n nv) n nv (bpN (daF σ n nv) n nv (-1)) nv) (bpN (daF σ n nv) n nv (-1)) n) n (bpN (daF σ n nv) n nv (-1)) x) 47 384 0 2097151 := fun x i hi => by rw [tlO_ne (by decide) (by decide) (by decide) (by decide) (by decide), vhF_ne (by decide) (by decide), svF_ne (by decide) (by decide)]; exact a47 i hi
  have tw : ∀ x, rwI (tlO (vhF (svF (daF σ n nv) n nv (bpN (daF σ n nv) n nv (-1)) nv) (bpN (daF σ n nv) n nv (-1)) n) n (bpN (daF σ n nv) n nv (-1)) x) := fun x i hi k => by rw [tlO_ne (by decide) (by decide) (by decide) (by decide) (by decide)]; exact vw i hi k
  have t49 : ∀ x k, k < n → tlO (vhF (svF (daF σ n nv) n nv (bpN (daF σ n nv) n nv (-1)) nv) (bpN (daF σ n nv) n nv (-1)) n) n (bpN (daF σ n nv) n nv (-1)) x 49 k = ((dg (bpN (daF σ n nv) n nv (-1)) k : Nat) : Int) := fun x k hk => by rw [tlO_ne (by decide) (by decide) (by decide) (by decide) (by decide)]; exact vhF_49 n k hk
  show V p l e rm_md_run u m args below meth c 4 w LL CC 0 0 (MQ below (zQi w LL CC (((cnt (fun i => decide (dg (bpN (daF σ n nv) n nv (-1)) i = 3)) n : Nat) : Int)) (mdF σ n nv) u.heap.size) args u 0 0 (zA w LL.1 u.heap.size)) 0 [(0, .ref (w.1 32))] [] σ
  refine V_iconst C d_md_run_0 ?_
  refine V_istore_n (lv' := [(1, _), (0, _)]) C d_md_run_1 (by decide) rfl ?_
  refine V_sub (lv' := [(1, _), (0, _)]) [0, 1] rfl ?_
  refine loopUp (n := nv) (P := fun x => V p l e rm_md_run u m args below meth c 4 w LL CC 0 0 (MQ below (zQi w LL CC (((cnt (fun i => decide (dg (bpN (daF σ n nv) n nv (-1)) i = 3)) n : Nat) : Int)) (mdF σ n nv) u.heap.size) args u 0 0 (zA w LL.1 u.heap.size)) 2 [(1, .int (zI ((x : Int)))), (0, .ref (w.1 32))] [] (daF σ n x)) (fun x hix ihx => ?_) 0 (Nat.zero_le _)
  show V p l e rm_md_run u m args below meth c 4 w LL CC 0 0 (MQ below (zQi w LL CC (((cnt (fun i => decide (dg (bpN (daF σ n nv) n nv (-1)) i = 3)) n : Nat) : Int)) (mdF σ n nv) u.heap.size) args u 0 0 (zA w LL.1 u.heap.size)) 2 [(1, .int (zI ((x : Int)))), (0, .ref (w.1 32))] [] (daF σ n x)
  refine V_iload_n C d_md_run_2 0 rfl ?_
  refine V_aload_n C d_md_run_3 1 rfl ?_
  refine V_geti C 32 9 (by decide) rfl rfl in_md (by decide) rfl wd_463 d_md_run_4 ?_
  refine V_ti (b := (nv : Int)) (by rw [daF_ne (by decide) (by decide) (by decide) (by decide)]; exact hv) ?_
  refine V_cmpge C 21 d_md_run_7 (by decide) ⟨by omega, by omega⟩ ⟨by omega, by omega⟩ (fun hx => ?_) (fun hx => ?_)
  · have hxx : x = nv := by omega
    rw [hxx]
    refine V_aload_n C d_md_run_21 1 rfl ?_
    refine V_iconst C d_md_run_22 ?_
    refine V_callVi C 32 (by decide) rfl rfl (c_md_bestPlan l w _ n nv hMA a46 (-1) ⟨by decide, by decide⟩) wd_624 wd_626 ws_20 wd_7 wd_627 o_md_bestPlan ⟨rfl, rfl, Nat.le_of_ble_eq_true rfl, Nat.le_of_ble_eq_true rfl⟩ rfl rfl (Nat.le_of_ble_eq_true rfl) d_md_run_23 ⟨Nat.zero_le _, Nat.zero_le _⟩ ?_
    refine V_ti hb2 ?_
    refine V_istore_n (lv' := [(1, _), (0, _)]) C d_md_run_26 (by decide) rfl ?_
    refine V_aload_n C d_md_run_27 1 rfl ?_
    refine V_aload_n C d_md_run_28 1 rfl ?_
    refine V_iload_n C d_md_run_29 0 rfl ?_
    refine V_iconst C d_md_run_30 ?_
    refine V_callVl C 32 (by decide) rfl rfl (c_md_costOf l w _ n nv hMA a46 (bpN (daF σ n nv) n nv (-1)) (by omega) (-1) ⟨by decide, by decide⟩) wd_628 wd_630 ws_21 wd_7 wd_631 o_md_costOf ⟨rfl, rfl, Nat.le_of_ble_eq_true rfl, Nat.le_of_ble_eq_true rfl⟩ rfl rfl (Nat.le_of_ble_eq_true rfl) d_md_run_31 ⟨Nat.zero_le _, Nat.zero_le _⟩ ?_
    refine V_put C 32 21 (by decide) rfl rfl in_md ty_md tk_md nm_md (by decide) rfl wd_475 rfl rfl rfl rfl d_md_run_34 ?_
    refine V_aload_n C d_md_run_37 1 rfl ?_
    refine V_iconst C d_md_run_38 ?_
    refine V_put C 32 18 (by decide) rfl rfl in_md ty_md tk_md nm_md (by decide) rfl wd_472 rfl rfl rfl rfl d_md_run_39 ?_
    refine V_aload_n C d_md_run_42 1 rfl ?_
    refine V_aload_n C d_md_run_43 1 rfl ?_
    refine V_geti C 32 0 (by decide) rfl rfl in_md (by decide) rfl wd_454 d_md_run_44 ?_
    refine V_ti (b := (n : Int)) hMA.1 ?_
    refine V_put C 32 19 (by decide) rfl rfl in_md ty_md tk_md nm_md (by decide) rfl wd_473 rfl rfl rfl rfl d_md_run_47 ?_
    refine V_aload_n C d_md_run_50 1 rfl ?_
    refine V_aload_n C d_md_run_51 1 rfl ?_
    refine V_geti C 32 9 (by decide) rfl rfl in_md (by decide) rfl wd_463 d_md_run_52 ?_
    refine V_ti (b := (nv : Int)) hMA.2.2.1 ?_
    refine V_put C 32 20 (by decide) rfl rfl in_md ty_md tk_md nm_md (by decide) rfl wd_474 rfl rfl rfl rfl d_md_run_55 ?_
    refine V_iconst C d_md_run_58 ?_
    refine V_istore_n (lv' := [(2, _), (1, _), (0, _)]) C d_md_run_59 (by decide) rfl ?_
    refine V_sub (lv' := [(2, _), (1, _), (0, _)]) [0, 1, 2] rfl ?_
    refine loopUp (n := nv) (P := fun x => V p l e rm_md_run u m args below meth c 4 w LL CC 0 0 (MQ below (zQi w LL CC (((cnt (fun i => decide (dg (bpN (daF σ n nv) n nv (-1)) i = 3)) n : Nat) : Int)) (mdF σ n nv) u.heap.size) args u 0 0 (zA w LL.1 u.heap.size)) 60 [(2, .int (zI ((x : Int)))), (1, .int (zI (((bpN (daF σ n nv) n nv (-1) : Nat) : Int)))), (0, .ref (w.1 32))] [] (svF (daF σ n nv) n nv (bpN (daF σ n nv) n nv (-1)) x)) (fun x hix ihx => ?_) 0 (Nat.zero_le _)
    show V p l e rm_md_run u m args below meth c 4 w LL CC 0 0 (MQ below (zQi w LL CC (((cnt (fun i => decide (dg (bpN (daF σ n nv) n nv (-1)) i = 3)) n : Nat) : Int)) (mdF σ n nv) u.heap.size) args u 0 0 (zA w LL.1 u.heap.size)) 60 [(2, .int (zI ((x : Int)))), (1, .int (zI (((bpN (daF σ n nv) n nv (-1) : Nat) : Int)))), (0, .ref (w.1 32))] [] (svF (daF σ n nv) n nv (bpN (daF σ n nv) n nv (-1)) x)
    refine V_iload_n C d_md_run_60 0 rfl ?_
    refine V_aload_n C d_md_run_61 2 rfl ?_
    refine V_geti C 32 9 (by decide) rfl rfl in_md (by decide) rfl wd_463 d_md_run_62 ?_
    refine V_ti (b := (nv : Int)) (hMs x).2.2.1 ?_
    refine V_cmpge C 95 d_md_run_65 (by decide) ⟨by omega, by omega⟩ ⟨by omega, by omega⟩ (fun hy => ?_) (fun hy => ?_)
    · have hyy : x = nv := by omega
      rw [hyy]
      refine V_iconst C d_md_run_95 ?_
      refine V_istore_n (lv' := [(2, _), (1, _), (0, _)]) C d_md_run_96 (by decide) rfl ?_
      refine V_iconst C d_md_run_97 ?_
      refine V_istore_n (lv' := [(3, _), (2, _), (1, _), (0, _)]) C d_md_run_98 (by decide) rfl ?_
      refine V_sub (lv' := [(3, _), (2, _), (1, _), (0, _)]) [0, 1, 2, 3] rfl ?_
      refine loopUp (n := n) (P := fun k => V p l e rm_md_run u m args below meth c 4 w LL CC 0 0 (MQ below (zQi w LL CC (((cnt (fun i => decide (dg (bpN (daF σ n nv) n nv (-1)) i = 3)) n : Nat) : Int)) (mdF σ n nv) u.heap.size) args u 0 0 (zA w LL.1 u.heap.size)) 99 [(3, .int (zI ((k : Int)))), (2, .int (zI (((cnt (fun i => decide (dg (bpN (daF σ n nv) n nv (-1)) i = 3)) k : Nat) : Int)))), (1, .int (zI (((bpN (daF σ n nv) n nv (-1) : Nat) : Int)))), (0, .ref (w.1 32))] [] (vhF (svF (daF σ n nv) n nv (bpN (daF σ n nv) n nv (-1)) nv) (bpN (daF σ n nv) n nv (-1)) k)) (fun k hik ihk => ?_) 0 (Nat.zero_le _)
      show V p l e rm_md_run u m args below meth c 4 w LL CC 0 0 (MQ below (zQi w LL CC (((cnt (fun i => decide (dg (bpN (daF σ n nv) n nv (-1)) i = 3)) n : Nat) : Int)) (mdF σ n nv) u.heap.size) args u 0 0 (zA w LL.1 u.heap.size)) 99 [(3, .int (zI ((k : Int)))), (2, .int (zI (((cnt (fun i => decide (dg (bpN (daF σ n nv) n nv (-1)) i = 3)) k : Nat) : Int)))), (1, .int (zI (((bpN (daF σ n nv) n nv (-1) : Nat) : Int)))), (0, .ref (w.1 32))] [] (vhF (svF (daF σ n nv) n nv (bpN (daF σ n nv) n nv (-1)) nv) (bpN (daF σ n nv) n nv (-1)) k)
      refine V_iload_n C d_md_run_99 0 rfl ?_
      refine V_aload_n C d_md_run_100 3 rfl ?_
      refine V_geti C 32 0 (by decide) rfl rfl in_md (by decide) rfl wd_454 d_md_run_101 ?_
      refine V_ti (b := (n : Int)) (hMv k).1 ?_
      refine V_cmpge C 149 d_md_run_104 (by decide) ⟨by omega, by omega⟩ ⟨by omega, by omega⟩ (fun hk => ?_) (fun hk => ?_)
      · have hkk : k = n := by omega
        rw [hkk]
        refine V_iconst C d_md_run_149 ?_
        refine V_istore_n (lv' := [(3, _), (2, _), (1, _), (0, _)]) C d_md_run_150 (by decide) rfl ?_
        refine V_sub (lv' := [(3, _), (2, _), (1, _), (0, _)]) [0, 1, 2, 3] rfl ?_
        refine loopUp (n := nv) (P := fun x => V p l e rm_md_run u m args below meth c 4 w LL CC 0 0 (MQ below (zQi w LL CC (((cnt (fun i => decide (dg (bpN (daF σ n nv) n nv (-1)) i = 3)) n : Nat) : Int)) (mdF σ n nv) u.heap.size) args u 0 0 (zA w LL.1 u.heap.size)) 151 [(3, .int (zI ((x : Int)))), (2, .int (zI (((cnt (fun i => decide (dg (bpN (daF σ n nv) n nv (-1)) i = 3)) n : Nat) : Int)))), (1, .int (zI (((bpN (daF σ n nv) n nv (-1) : Nat) : Int)))), (0, .ref (w.1 32))] [] (tlO (vhF (svF (daF σ n nv) n nv (bpN (daF σ n nv) n nv (-1)) nv) (bpN (daF σ n nv) n nv (-1)) n) n (bpN (daF σ n nv) n nv (-1)) x)) (fun x hix ihx => ?_) 0 (Nat.zero_le _)
        show V p l e rm_md_run u m args below meth c 4 w LL CC 0 0 (MQ below (zQi w LL CC (((cnt (fun i => decide (dg (bpN (daF σ n nv) n nv (-1)) i = 3)) n : Nat) : Int)) (mdF σ n nv) u.heap.size) args u 0 0 (zA w LL.1 u.heap.size)) 151 [(3, .int (zI ((x : Int)))), (2, .int (zI (((cnt (fun i => decide (dg (bpN (daF σ n nv) n nv (-1)) i = 3)) n : Nat) : Int)))), (1, .int (zI (((bpN (daF σ n nv) n nv (-1) : Nat) : Int)))), (0, .ref (w.1 32))] [] (tlO (vhF (svF (daF σ n nv) n nv (bpN (daF σ n nv) n nv (-1)) nv) (bpN (daF σ n nv) n nv (-1)) n) n (bpN (daF σ n nv) n nv (-1)) x)
        refine V_iload_n C d_md_run_151 0 rfl ?_
        refine V_aload_n C d_md_run_152 3 rfl ?_
        refine V_geti C 32 9 (by decide) rfl rfl in_md (by decide) rfl wd_463 d_md_run_153 ?_
        refine V_ti (b := (nv : Int)) (hMt x).2.2.1 ?_
        refine V_cmpge C 176 d_md_run_156 (by decide) ⟨by omega, by omega⟩ ⟨by omega, by omega⟩ (fun hz => ?_) (fun hz => ?_)
        · have hzz : x = nv := by omega
          rw [hzz]
          refine V_iconst C d_md_run_176 ?_
          refine V_istore_n (lv' := [(3, _), (2, _), (1, _), (0, _)]) C d_md_run_177 (by decide) rfl ?_
          refine V_sub (lv' := [(3, _), (2, _), (1, _), (0, _)]) [0, 1, 2, 3] rfl ?_
          refine loopUp (n := n) (P := fun k => V p l e rm_md_run u m args below meth c 4 w LL CC 0 0 (MQ below (zQi w LL CC (((cnt (fun i => decide (dg (bpN (daF σ n nv) n nv (-1)) i = 3)) n : Nat) : Int)) (mdF σ n nv) u.heap.size) args u 0 0 (zA w LL.1 u.heap.size)) 178 [(3, .int (zI ((k : Int)))), (2, .int (zI (((cnt (fun i => decide (dg (bpN (daF σ n nv) n nv (-1)) i = 3)) n : Nat) : Int)))), (1, .int (zI (((bpN (daF σ n nv) n nv (-1) : Nat) : Int)))), (0, .ref (w.1 32))] [] (bgF (tlO (vhF (svF (daF σ n nv) n nv (bpN (daF σ n nv) n nv (-1)) nv) (bpN (daF σ n nv) n nv (-1)) n) n (bpN (daF σ n nv) n nv (-1)) nv) (bpN (daF σ n nv) n nv (-1)) k)) (fun k hik ihk => ?_) 0 (Nat.zero_le _)
          show V p l e rm_md_run u m args below meth c 4 w LL CC 0 0 (MQ below (zQi w LL CC (((cnt (fun i => decide (dg (bpN (daF σ n nv) n nv (-1)) i = 3)) n : Nat) : Int)) (mdF σ n nv) u.heap.size) args u 0 0 (zA w LL.1 u.heap.size)) 178 [(3, .int (zI ((k : Int)))), (2, .int (zI (((cnt (fun i => decide (dg (bpN (daF σ n nv) n nv (-1)) i = 3)) n : Nat) : Int)))), (1, .int (zI (((bpN (daF σ n nv) n nv (-1) : Nat) : Int)))), (0, .ref (w.1 32))] [] (bgF (tlO (vhF (svF (daF σ n nv) n nv (bpN (daF σ n nv) n nv (-1)) nv) (bpN (daF σ n nv) n nv (-1)) n) n (bpN (daF σ n nv) n nv (-1)) nv) (bpN (daF σ n nv) n nv (-1)) k)
          refine V_iload_n C d_md_run_178 0 rfl ?_
          refine V_aload_n C d_md_run_179 3 rfl ?_
          refine V_geti C 32 0 (by decide) rfl rfl in_md (by decide) rfl wd_454 d_md_run_180 ?_
          refine V_ti (b := (n : Int)) (by rw [bgF_ne (by decide)]; exact (hMt nv).1) ?_
          refine V_cmpge C 218 d_md_run_183 (by decide) ⟨by omega, by omega⟩ ⟨by omega, by omega⟩ (fun hq => ?_) (fun hq => ?_)
          · have hqq : k = n := by omega
            rw [hqq]
            refine V_iload_n C d_md_run_218 1 rfl ?_
            exact V_iret C hr d_md_run_219 rfl rfl
          · have hqq : k < n := by omega
            have hd4 : dg (bpN (daF σ n nv) n nv (-1)) k < 4 := Nat.mod_lt _ (by decide)
            refine V_aload_n C d_md_run_186 3 rfl ?_
            refine V_getr C 32 23 50 (by decide) rfl rfl in_md (by decide) rfl wd_477 d_md_run_187 ?_
            refine V_iload_n C d_md_run_190 0 rfl ?_
            refine V_aload_n C d_md_run_191 3 rfl ?_
            refine V_getr C 32 22 49 (by decide) rfl rfl in_md (by decide) rfl wd_476 d_md_run_192 ?_
            refine V_iload_n C d_md_run_195 0 rfl ?_
            refine V_iald C 49 k (by decide) rfl rfl (by omega) (by decide) d_md_run_196 ?_
            refine V_ti (b := ((dg (bpN (daF σ n nv) n nv (-1)) k : Nat) : Int)) (by rw [bgF_ne (by decide)]; exact t49 nv k hqq) ?_
            refine V_iconst C d_md_run_197 ?_
            refine V_cmpne C 205 d_md_run_198 (by decide) ⟨by omega, by omega⟩ ⟨by omega, by omega⟩ (fun g4 => ?_) (fun g4 => ?_)
            · refine V_aload_n C d_md_run_205 3 rfl ?_
              refine V_getr C 32 23 50 (by decide) rfl rfl in_md (by decide) rfl wd_477 d_md_run_206 ?_
              refine V_iload_n C d_md_run_209 0 rfl ?_
              refine V_iald C 50 k (by decide) rfl rfl (by omega) (by decide) d_md_run_210 ?_
              refine V_ti (bgF_hi k k (Nat.le_refl k)) ?_
              refine V_ti (b := (if dg (bpN (daF σ n nv) n nv (-1)) k = 3 then -1 else tlO (vhF (svF (daF σ n nv) n nv (bpN (daF σ n nv) n nv (-1)) nv) (bpN (daF σ n nv) n nv (-1)) n) n (bpN (daF σ n nv) n nv (-1)) nv 50 k)) (by first | (rw [if_neg (by omega)]) | (rw [if_pos (by omega)])) ?_
              refine V_iast C 50 k (by decide) rfl rfl (by omega) (by decide) d_md_run_211 ?_
              refine V_iinc (lv' := [(3, _), (2, _), (1, _), (0, _)]) C d_md_run_212 0 rfl (by decide) rfl ?_
              refine V_goto C 178 d_md_run_215 (by decide) ?_
              refine V_sub (lv' := [(3, _), (2, _), (1, _), (0, _)]) [0, 1, 2, 3] rfl ?_
              exact ihk hqq
            · refine V_iconst C d_md_run_201 ?_
              refine V_goto C 211 d_md_run_202 (by decide) ?_
              refine V_ti (b := (if dg (bpN (daF σ n nv) n nv (-1)) k = 3 then -1 else tlO (vhF (svF (daF σ n nv) n nv (bpN (daF σ n nv) n nv (-1)) nv) (bpN (daF σ n nv) n nv (-1)) n) n (bpN (daF σ n nv) n nv (-1)) nv 50 k)) (by first | (rw [if_neg (by omega)]) | (rw [if_pos (by omega)])) ?_
              refine V_iast C 50 k (by decide) rfl rfl (by omega) (by decide) d_md_run_211 ?_
              refine V_iinc (lv' := [(3, _), (2, _), (1, _), (0, _)]) C d_md_run_212 0 rfl (by decide) rfl ?_
              refine V_goto C 178 d_md_run_215 (by decide) ?_
              refine V_sub (lv' := [(3, _), (2, _), (1, _), (0, _)]) [0, 1, 2, 3] rfl ?_
              exact ihk hqq
        · have hzz : x < nv := by omega
          refine V_aload_n C d_md_run_159 3 rfl ?_
          refine V_iload_n C d_md_run_160 0 rfl ?_
          refine V_aload_n C d_md_run_161 3 rfl ?_
          refine V_iload_n C d_md_run_162 2 rfl ?_
          refine V_iload_n C d_md_run_163 0 rfl ?_
          refine V_callVi C 32 (by decide) rfl rfl (c_md_setIn l w _ n (hMt x).1 hn7 (bpN (daF σ n nv) n nv (-1)) x (by omega) (by omega)) wd_636 wd_638 ws_22 wd_7 wd_639 o_md_setIn ⟨rfl, rfl, Nat.le_of_ble_eq_true rfl, Nat.le_of_ble_eq_true rfl⟩ rfl rfl (Nat.le_of_ble_eq_true rfl) d_md_run_164 ⟨Nat.zero_le _, Nat.zero_le _⟩ ?_
          refine V_callVv C 32 (by decide) rfl rfl (c_md_tellRound l w _ n nv (hMt x) (t48 x (by omega)) (t47 x) (tw x) x (siF (bpN (daF σ n nv) n nv (-1)) x n) (by omega) (siF_lt hn7)) wd_640 wd_642 ws_23 wd_7 wd_643 o_md_tellRound ⟨rfl, rfl, Nat.le_of_ble_eq_true rfl, Nat.le_of_ble_eq_true rfl⟩ rfl rfl (Nat.le_of_ble_eq_true rfl) d_md_run_167 ⟨Nat.zero_le _, Nat.zero_le _⟩ ?_
          refine V_iinc (lv' := [(3, _), (2, _), (1, _), (0, _)]) C d_md_run_170 0 rfl (by decide) rfl ?_
          refine V_goto C 151 d_md_run_173 (by decide) ?_
          refine V_sub (lv' := [(3, _), (2, _), (1, _), (0, _)]) [0, 1, 2, 3] rfl ?_
          exact ihx hzz
      · have hkk : k < n := by omega
        have hd4 : dg (bpN (daF σ n nv) n nv (-1)) k < 4 := Nat.mod_lt _ (by decide)
        refine V_aload_n C d_md_run_107 3 rfl ?_
        refine V_getr C 32 22 49 (by decide) rfl rfl in_md (by decide) rfl wd_476 d_md_run_108 ?_
        refine V_iload_n C d_md_run_111 0 rfl ?_
        refine V_iload_n C d_md_run_112 2 rfl ?_
        refine V_iload_n C d_md_run_113 0 rfl ?_
        refine V_callSi C (c_md_digit l w _ (bpN (daF σ n nv) n nv (-1)) k (by omega) (by omega)) wd_632 wd_633 wd_7 wd_634 o_md_digit ⟨rfl, rfl, Nat.le_of_ble_eq_true rfl, Nat.le_of_ble_eq_true rfl⟩ rfl rfl (Nat.le_of_ble_eq_true rfl) d_md_run_114 ⟨Nat.zero_le _, Nat.zero_le _⟩ ?_
        refine V_iast C 49 k (by decide) rfl rfl (by omega) (by decide) d_md_run_117 ?_
        refine V_iload_n C d_md_run_118 1 rfl ?_
        refine V_aload_n C d_md_run_119 3 rfl ?_
        refine V_getr C 32 22 49 (by decide) rfl rfl in_md (by decide) rfl wd_476 d_md_run_120 ?_
        refine V_iload_n C d_md_run_123 0 rfl ?_
        refine V_iald C 49 k (by decide) rfl rfl (by omega) (by decide) d_md_run_124 ?_
        refine V_ti (b := ((dg (bpN (daF σ n nv) n nv (-1)) k : Nat) : Int)) zU_self ?_
        refine V_iconst C d_md_run_125 ?_
        refine V_cmpne C 133 d_md_run_126 (by decide) ⟨by omega, by omega⟩ ⟨by omega, by omega⟩ (fun g3 => ?_) (fun g3 => ?_)
        · refine V_iconst C d_md_run_133 ?_
          refine V_ti (b := (((if dg (bpN (daF σ n nv) n nv (-1)) k = 3 then 1 else 0 : Nat)) : Int)) (by first | (rw [if_neg (by omega)]; rfl) | (rw [if_pos (by omega)]; rfl)) ?_
          refine V_iadd C d_md_run_134 ?_
          refine V_ti (b := ((cnt (fun i => decide (dg (bpN (daF σ n nv) n nv (-1)) i = 3)) (k + 1) : Nat) : Int)) (by rw [cnt_s]; simp only [decide_eq_true_eq]; omega) ?_
          refine V_istore_n (lv' := [(2, _), (3, _), (1, _), (0, _)]) C d_md_run_135 (by decide) rfl ?_
          refine V_aload_n C d_md_run_136 3 rfl ?_
          refine V_getr C 32 23 50 (by decide) rfl rfl in_md (by decide) rfl wd_477 d_md_run_137 ?_
          refine V_iload_n C d_md_run_140 1 rfl ?_
          refine V_iconst C d_md_run_141 ?_
          refine V_iast C 50 k (by decide) rfl rfl (by omega) (by decide) d_md_run_142 ?_
          refine V_iinc (lv' := [(3, _), (2, _), (1, _), (0, _)]) C d_md_run_143 1 rfl (by decide) rfl ?_
          refine V_goto C 99 d_md_run_146 (by decide) ?_
          refine V_sub (lv' := [(3, _), (2, _), (1, _), (0, _)]) [0, 1, 2, 3] rfl ?_
          exact ihk hkk
        · refine V_iconst C d_md_run_129 ?_
          refine V_goto C 134 d_md_run_130 (by decide) ?_
          refine V_ti (b := (((if dg (bpN (daF σ n nv) n nv (-1)) k = 3 then 1 else 0 : Nat)) : Int)) (by first | (rw [if_neg (by omega)]; rfl) | (rw [if_pos (by omega)]; rfl)) ?_
          refine V_iadd C d_md_run_134 ?_
          refine V_ti (b := ((cnt (fun i => decide (dg (bpN (daF σ n nv) n nv (-1)) i = 3)) (k + 1) : Nat) : Int)) (by rw [cnt_s]; simp only [decide_eq_true_eq]; omega) ?_
          refine V_istore_n (lv' := [(2, _), (3, _), (1, _), (0, _)]) C d_md_run_135 (by decide) rfl ?_
          refine V_aload_n C d_md_run_136 3 rfl ?_
          refine V_getr C 32 23 50 (by decide) rfl rfl in_md (by decide) rfl wd_477 d_md_run_137 ?_
          refine V_iload_n C d_md_run_140 1 rfl ?_
          refine V_iconst C d_md_run_141 ?_
          refine V_iast C 50 k (by decide) rfl rfl (by omega) (by decide) d_md_run_142 ?_
          refine V_iinc (lv' := [(3, _), (2, _), (1, _), (0, _)]) C d_md_run_143 1 rfl (by decide) rfl ?_
          refine V_goto C 99 d_md_run_146 (by decide) ?_
          refine V_sub (lv' := [(3, _), (2, _), (1, _), (0, _)]) [0, 1, 2, 3] rfl ?_
          exact ihk hkk
    · have hyy : x < nv := by omega
      obtain ⟨c1, c2⟩ := bpN_ok (r := (x : Int)) hMA a46
      refine V_aload_n C d_md_run_68 2 rfl ?_
      refine V_getr C 32 27 54 (by decide) rfl rfl in_md (by decide) rfl wd_481 d_md_run_69 ?_
      refine V_iload_n C d_md_run_72 0 rfl ?_
      refine V_aload_n C d_md_run_73 2 rfl ?_
      refine V_aload_n C d_md_run_74 2 rfl ?_
      refine V_iload_n C d_md_run_75 0 rfl ?_
      refine V_callVi C 32 (by decide) rfl rfl (c_md_bestPlan l w _ n nv (hMs x) (s46 x) (x : Int) ⟨by omega, by omega⟩) wd_624 wd_626 ws_20 wd_7 wd_627 o_md_bestPlan ⟨rfl, rfl, Nat.le_of_ble_eq_true rfl, Nat.le_of_ble_eq_true rfl⟩ rfl rfl (Nat.le_of_ble_eq_true rfl) d_md_run_76 ⟨Nat.zero_le _, Nat.zero_le _⟩ ?_
      refine V_ti (b := ((bpN (daF σ n nv) n nv (x : Int) : Nat) : Int)) (by rw [bpF_congr (svF_ne (by decide) (by decide) x) (svF_ne (by decide) (by decide) x) (svF_ne (by decide) (by decide) x) (svF_ne (by decide) (by decide) x)]; exact c2) ?_
      refine V_iload_n C d_md_run_79 0 rfl ?_
      refine V_callVl C 32 (by decide) rfl rfl (c_md_costOf l w _ n nv (hMs x) (s46 x) (bpN (daF σ n nv) n nv (x : Int)) (by omega) (x : Int) ⟨by omega, by omega⟩) wd_628 wd_630 ws_21 wd_7 wd_631 o_md_costOf ⟨rfl, rfl, Nat.le_of_ble_eq_true rfl, Nat.le_of_ble_eq_true rfl⟩ rfl rfl (Nat.le_of_ble_eq_true rfl) d_md_run_80 ⟨Nat.zero_le _, Nat.zero_le _⟩ ?_
      refine V_tl (coF_congr (svF_ne (by decide) (by decide) x) (svF_ne (by decide) (by decide) x) (svF_ne (by decide) (by decide) x) (svF_ne (by decide) (by decide) x)) ?_
      refine V_aload_n C d_md_run_83 2 rfl ?_
      refine V_getl C 32 21 (by decide) rfl rfl in_md (by decide) rfl wd_475 d_md_run_84 ?_
      refine V_tl (b := coF (daF σ n nv) n nv (bpN (daF σ n nv) n nv (-1)) (-1)) (by rw [svF_32]; rfl) ?_
      refine V_lsub C d_md_run_87 ?_
      refine V_last C 54 x (by decide) rfl rfl (by omega) (by decide) d_md_run_88 ?_
      refine V_iinc (lv' := [(2, _), (1, _), (0, _)]) C d_md_run_89 0 rfl (by decide) rfl ?_
      refine V_goto C 60 d_md_run_92 (by decide) ?_
      refine V_sub (lv' := [(2, _), (1, _), (0, _)]) [0, 1, 2] rfl ?_
      exact ihx hyy
  · have hxx : x < nv := by omega
    obtain ⟨b1, b2, b3, b4, b5⟩ := hall x (by omega)
    refine V_aload_n C d_md_run_10 1 rfl ?_
    refine V_iload_n C d_md_run_11 0 rfl ?_
    refine V_callVv C 32 (by decide) rfl rfl (c_md_driveAll l w _ n nv b1 b2 b3 b4 x (by omega)) wd_600 wd_602 ws_14 wd_7 wd_603 o_md_driveAll ⟨rfl, rfl, Nat.le_of_ble_eq_true rfl, Nat.le_of_ble_eq_true rfl⟩ rfl rfl (Nat.le_of_ble_eq_true rfl) d_md_run_12 ⟨Nat.zero_le _, Nat.zero_le _⟩ ?_
    refine V_iinc (lv' := [(1, _), (0, _)]) C d_md_run_15 0 rfl (by decide) rfl ?_
    refine V_goto C 2 d_md_run_18 (by decide) ?_
    refine V_sub (lv' := [(1, _), (0, _)]) [0, 1] rfl ?_
    exact ihx hxx
