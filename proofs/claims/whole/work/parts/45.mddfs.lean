/-! the reference's search: driveAll -/
set_option maxRecDepth 20000 in
set_option maxHeartbeats 4000000 in
theorem c_md_driveAll (l : Launch) (w : zW) (σ : Nat → Nat → Int) (n nv : Nat) (hM : mI σ n nv) (h48 : bd σ 48 7 0 6) (h46 : bd σ 46 384 (-1) 150000) (h47 : bd σ 47 384 0 2097151) (v : Nat) (hv0 : v < 3) : zMv l w LL CC g_md_driveAll rm_md_driveAll [.ref (w.1 32), .int (zI (v : Int))] σ (dfs n v (n + 1) 0 n (erF σ v 128)) := by
  refine zMv.of g_md_driveAll (by decide +kernel) (Nat.le_of_ble_eq_true rfl) rfl ?_
  intro p e u m args below meth c C hr
  have C : zC p u m args meth c prog_7_method_19_code 4 "RoundPlansModel" w LL CC := C
  have hr : meth.sig.returnType = none := hr
  obtain ⟨hn, hn7, -⟩ := id hM
  have key : ∀ (f m0 c0 : Nat) (τ : Nat → Nat → Int), m0 + f = n + 1 → c0 ≤ n → dI τ n m0 → mI τ n nv → bd τ 48 7 0 6 → bd τ 46 384 (-1) 150000 → bd τ 47 384 0 2097151 → V p l e rm_md_driveAll u m args below meth c 4 w LL CC 0 0 (MQ below (zQv w LL CC (dfs n v (n + 1) 0 n (erF σ v 128)) u.heap.size) args u 0 0 (zA w LL.1 u.heap.size)) 36 [(3, .int (zI ((n : Int)))), (2, .int (zI ((m0 : Int)))), (0, .ref (w.1 32)), (1, .int (zI (v : Int)))] [] (dfs n v f m0 c0 τ) → V p l e rm_md_driveAll u m args below meth c 4 w LL CC 0 0 (MQ below (zQv w LL CC (dfs n v (n + 1) 0 n (erF σ v 128)) u.heap.size) args u 0 0 (zA w LL.1 u.heap.size)) 36 [(3, .int (zI (((n - c0 : Nat) : Int)))), (2, .int (zI ((m0 : Int)))), (0, .ref (w.1 32)), (1, .int (zI (v : Int)))] [] (τ) := by
    intro f
    induction f with
    | zero =>
      intro m0 c0 τ h1 hc hd hM h48 h46 h47 hK
      have e1 := dI_cnt m0 hd
      have e2 := cnt_le (fun i => (soF τ m0).testBit i) n
      omega
    | succ f ihf =>
      intro m0 c0
      induction c0 with
      | zero =>
        intro τ h1 hc hd hM h48 h46 h47 hK
        rw [dfs] at hK
        exact hK
      | succ c0 ihc =>
        intro τ h1 hc hd hM h48 h46 h47 hK
        have hx : n - (c0 + 1) < n := by omega
        rw [dfs] at hK
        refine V_iload_n C d_md_driveAll_36 0 rfl ?_
        refine V_aload_n C d_md_driveAll_37 2 rfl ?_
        refine V_geti C 32 0 (by decide) rfl rfl in_md (by decide) rfl wd_454 d_md_driveAll_38 ?_
        refine V_ti (b := (n : Int)) hM.1 ?_
        refine V_cmpge C 60 d_md_driveAll_41 (by decide) ⟨by omega, by omega⟩ ⟨by omega, by omega⟩ (fun h41 => ?_) (fun h41 => ?_)
        · exact absurd h41 (by omega)
        · refine V_aload_n C d_md_driveAll_44 2 rfl ?_
          refine V_iload_n C d_md_driveAll_45 3 rfl ?_
          refine V_iload_n C d_md_driveAll_46 1 rfl ?_
          refine V_iload_n C d_md_driveAll_47 0 rfl ?_
          refine V_callVi C 32 (by decide) rfl rfl (c_md_mayFollow l w τ n nv hM h48 v m0 (n - (c0 + 1)) hv0 (by omega) (by omega)) wd_604 wd_606 ws_15 wd_7 wd_607 o_md_mayFollow ⟨rfl, rfl, Nat.le_of_ble_eq_true rfl, Nat.le_of_ble_eq_true rfl⟩ rfl rfl (Nat.le_of_ble_eq_true rfl) d_md_driveAll_48 ⟨Nat.zero_le _, Nat.zero_le _⟩ ?_
          refine V_ifneB C 60 d_md_driveAll_51 (by decide) (fun hm => ?_) (fun hm => ?_)
          · obtain ⟨hmn, hM1, a48, a46, hd2, hM2, b48, b46, b47⟩ := dfs_push hn7 hv0 hd hm hx hM h48 h46 h47
            obtain ⟨hd3, hM3, hT3, c48, c46, c47⟩ := dfs_back (f := f) hn7 hv0 hd hm hx hM h48 h46 h47
            refine V_iload_n C d_md_driveAll_60 0 rfl ?_
            refine V_aload_n C d_md_driveAll_61 2 rfl ?_
            refine V_geti C 32 0 (by decide) rfl rfl in_md (by decide) rfl wd_454 d_md_driveAll_62 ?_
            refine V_ti (b := (n : Int)) hM.1 ?_
            refine V_cmpge C 89 d_md_driveAll_65 (by decide) ⟨by omega, by omega⟩ ⟨by omega, by omega⟩ (fun h65 => ?_) (fun h65 => ?_)
            · exact absurd h65 (by omega)
            · refine V_aload_n C d_md_driveAll_68 2 rfl ?_
              refine V_getr C 32 17 48 (by decide) rfl rfl in_md (by decide) rfl wd_471 d_md_driveAll_69 ?_
              refine V_iload_n C d_md_driveAll_72 1 rfl ?_
              refine V_iload_n C d_md_driveAll_73 0 rfl ?_
              refine V_iast C 48 m0 (by decide) rfl rfl (by omega) (by decide) d_md_driveAll_74 ?_
              refine V_iinc (lv' := [(2, _), (3, _), (0, _), (1, _)]) C d_md_driveAll_75 1 rfl (by decide) rfl ?_
              refine V_aload_n C d_md_driveAll_78 2 rfl ?_
              refine V_iload_n C d_md_driveAll_79 3 rfl ?_
              refine V_iload_n C d_md_driveAll_80 0 rfl ?_
              refine V_callVv C 32 (by decide) rfl rfl (c_md_keep l w (zU τ 48 m0 ((n - (c0 + 1) : Nat) : Int)) n nv hM1 a48 v (m0 + 1) hv0 (by omega) a46) wd_608 wd_610 ws_16 wd_7 wd_611 o_md_keep ⟨rfl, rfl, Nat.le_of_ble_eq_true rfl, Nat.le_of_ble_eq_true rfl⟩ rfl rfl (Nat.le_of_ble_eq_true rfl) d_md_driveAll_81 ⟨Nat.zero_le _, Nat.zero_le _⟩ ?_
              refine V_iconst C d_md_driveAll_84 ?_
              refine V_istore_n (lv' := [(3, _), (2, _), (0, _), (1, _)]) C d_md_driveAll_85 (by decide) rfl ?_
              refine V_goto C 32 d_md_driveAll_86 (by decide) ?_
              refine V_iload_n C d_md_driveAll_32 1 rfl ?_
              refine V_iflt C 112 d_md_driveAll_33 (by decide) ⟨by omega, by omega⟩ (fun h33 => ?_) (fun h33 => ?_)
              · exact absurd h33 (by omega)
              · rw [if_pos hm] at hK
                suffices hs : V p l e rm_md_driveAll u m args below meth c 4 w LL CC 0 0 (MQ below (zQv w LL CC (dfs n v (n + 1) 0 n (erF σ v 128)) u.heap.size) args u 0 0 (zA w LL.1 u.heap.size)) 36 [(3, .int (zI ((n : Int)))), (2, .int (zI (((m0 + 1 : Nat) : Int)))), (0, .ref (w.1 32)), (1, .int (zI (v : Int)))] [] (dfs n v f (m0 + 1) n (kpF (zU τ 48 m0 ((n - (c0 + 1) : Nat) : Int)) v (m0 + 1))) from (by have h99 := ihf (m0 + 1) n (kpF (zU τ 48 m0 ((n - (c0 + 1) : Nat) : Int)) v (m0 + 1)) (by omega) (Nat.le_refl n) hd2 hM2 b48 b46 b47 hs; rw [Nat.sub_self] at h99; exact h99)
                refine V_iload_n C d_md_driveAll_36 0 rfl ?_
                refine V_aload_n C d_md_driveAll_37 2 rfl ?_
                refine V_geti C 32 0 (by decide) rfl rfl in_md (by decide) rfl wd_454 d_md_driveAll_38 ?_
                refine V_ti (b := (n : Int)) hM3.1 ?_
                refine V_cmpge C 60 d_md_driveAll_41 (by decide) ⟨by omega, by omega⟩ ⟨by omega, by omega⟩ (fun h41b => ?_) (fun h41b => ?_)
                · refine V_iload_n C d_md_driveAll_60 0 rfl ?_
                  refine V_aload_n C d_md_driveAll_61 2 rfl ?_
                  refine V_geti C 32 0 (by decide) rfl rfl in_md (by decide) rfl wd_454 d_md_driveAll_62 ?_
                  refine V_ti (b := (n : Int)) hM3.1 ?_
                  refine V_cmpge C 89 d_md_driveAll_65 (by decide) ⟨by omega, by omega⟩ ⟨by omega, by omega⟩ (fun h65b => ?_) (fun h65b => ?_)
                  · refine V_iinc (lv' := [(2, _), (3, _), (0, _), (1, _)]) C d_md_driveAll_89 1 rfl (by decide) rfl ?_
                    refine V_lv (lv' := [(2, .int (zI (m0 : Int))), (3, .int (zI (n : Int))), (0, .ref (w.1 32)), (1, .int (zI (v : Int)))]) (by rw [show ((m0 + 1 : Nat) : Int) + -1 = (m0 : Int) by omega]) ?_
                    refine V_iload_n C d_md_driveAll_92 0 rfl ?_
                    refine V_iflt C 107 d_md_driveAll_93 (by decide) ⟨by omega, by omega⟩ (fun h93 => ?_) (fun h93 => ?_)
                    · exact absurd h93 (by omega)
                    · refine V_aload_n C d_md_driveAll_96 2 rfl ?_
                      refine V_getr C 32 17 48 (by decide) rfl rfl in_md (by decide) rfl wd_471 d_md_driveAll_97 ?_
                      refine V_iload_n C d_md_driveAll_100 0 rfl ?_
                      refine V_iald C 48 m0 (by decide) rfl rfl (by omega) (by decide) d_md_driveAll_101 ?_
                      refine V_ti hT3 ?_
                      refine V_iconst C d_md_driveAll_102 ?_
                      refine V_iadd C d_md_driveAll_103 ?_
                      refine V_goto C 108 d_md_driveAll_104 (by decide) ?_
                      refine V_istore_n (lv' := [(3, _), (2, _), (0, _), (1, _)]) C d_md_driveAll_108 (by decide) rfl ?_
                      refine V_goto C 32 d_md_driveAll_109 (by decide) ?_
                      refine V_iload_n C d_md_driveAll_32 1 rfl ?_
                      refine V_iflt C 112 d_md_driveAll_33 (by decide) ⟨by omega, by omega⟩ (fun h33b => ?_) (fun h33b => ?_)
                      · exact absurd h33b (by omega)
                      · have h99 := ihc (dfs n v f (m0 + 1) n (kpF (zU τ 48 m0 ((n - (c0 + 1) : Nat) : Int)) v (m0 + 1))) h1 (by omega) hd3 hM3 c48 c46 c47 hK
                        rw [show ((n - c0 : Nat) : Int) = ((n - (c0 + 1) : Nat) : Int) + 1 by omega] at h99
                        exact h99
                  · exact absurd h65b (by omega)
                · exact absurd h41b (by omega)
          · refine V_iinc (lv' := [(3, _), (2, _), (0, _), (1, _)]) C d_md_driveAll_54 0 rfl (by decide) rfl ?_
            refine V_goto C 36 d_md_driveAll_57 (by decide) ?_
            rw [if_neg hm] at hK
            have h99 := ihc τ h1 (by omega) hd hM h48 h46 h47 hK
            rw [show ((n - c0 : Nat) : Int) = ((n - (c0 + 1) : Nat) : Int) + 1 by omega] at h99
            exact h99
  show V p l e rm_md_driveAll u m args below meth c 4 w LL CC 0 0 (MQ below (zQv w LL CC (dfs n v (n + 1) 0 n (erF σ v 128)) u.heap.size) args u 0 0 (zA w LL.1 u.heap.size)) 0 [(0, .ref (w.1 32)), (1, .int (zI (v : Int)))] [] σ
  refine V_iconst C d_md_driveAll_0 ?_
  refine V_istore_n (lv' := [(2, _), (0, _), (1, _)]) C d_md_driveAll_1 (by decide) rfl ?_
  refine V_sub (lv' := [(2, _), (0, _), (1, _)]) [0, 1, 2] rfl ?_
  refine loopUp (n := 128) (P := fun j => V p l e rm_md_driveAll u m args below meth c 4 w LL CC 0 0 (MQ below (zQv w LL CC (dfs n v (n + 1) 0 n (erF σ v 128)) u.heap.size) args u 0 0 (zA w LL.1 u.heap.size)) 2 [(2, .int (zI ((j : Int)))), (0, .ref (w.1 32)), (1, .int (zI ((v : Int))))] [] (erF σ v j)) (fun j hij ihj => ?_) 0 (Nat.zero_le _)
  show V p l e rm_md_driveAll u m args below meth c 4 w LL CC 0 0 (MQ below (zQv w LL CC (dfs n v (n + 1) 0 n (erF σ v 128)) u.heap.size) args u 0 0 (zA w LL.1 u.heap.size)) 2 [(2, .int (zI ((j : Int)))), (0, .ref (w.1 32)), (1, .int (zI ((v : Int))))] [] (erF σ v j)
  refine V_iload_n C d_md_driveAll_2 0 rfl ?_
  refine V_sipush C d_md_driveAll_3 (by decide) ?_
  refine V_cmpge C 28 d_md_driveAll_6 (by decide) ⟨by omega, by omega⟩ ⟨by omega, by omega⟩ (fun he => ?_) (fun he => ?_)
  · have hj : j = 128 := by omega
    subst hj
    refine V_iconst C d_md_driveAll_28 ?_
    refine V_istore_n (lv' := [(2, _), (0, _), (1, _)]) C d_md_driveAll_29 (by decide) rfl ?_
    refine V_iconst C d_md_driveAll_30 ?_
    refine V_istore_n (lv' := [(3, _), (2, _), (0, _), (1, _)]) C d_md_driveAll_31 (by decide) rfl ?_
    refine V_iload_n C d_md_driveAll_32 1 rfl ?_
    refine V_iflt C 112 d_md_driveAll_33 (by decide) ⟨by omega, by omega⟩ (fun h33d => ?_) (fun h33d => ?_)
    · exact absurd h33d (by decide)
    · suffices hs : V p l e rm_md_driveAll u m args below meth c 4 w LL CC 0 0 (MQ below (zQv w LL CC (dfs n v (n + 1) 0 n (erF σ v 128)) u.heap.size) args u 0 0 (zA w LL.1 u.heap.size)) 36 [(3, .int (zI ((n : Int)))), (2, .int (zI (((0 : Nat) : Int)))), (0, .ref (w.1 32)), (1, .int (zI (v : Int)))] [] (dfs n v (n + 1) 0 n (erF σ v 128)) from (by have h99 := key (n + 1) 0 n (erF σ v 128) (by omega) (Nat.le_refl n) (fun k hk => absurd hk (by omega)) (hM.congr (by rw [erF_ne (by decide)]) (by rw [erF_ne (by decide)]) (fun k k1 k2 => erF_ne (by omega) 128)) (by intro i hi; rw [erF_ne (by decide)]; exact h48 i hi) (erF_46 h46 128) (by intro i hi; rw [erF_ne (by decide)]; exact h47 i hi) hs; rw [Nat.sub_self] at h99; exact h99)
      have hMF : dfs n v (n + 1) 0 n (erF σ v 128) 32 0 = (n : Int) := by rw [dfs_ne (by decide) (by decide) (by decide) (by decide), erF_ne (by decide)]; exact hn
      refine V_iload_n C d_md_driveAll_36 0 rfl ?_
      refine V_aload_n C d_md_driveAll_37 2 rfl ?_
      refine V_geti C 32 0 (by decide) rfl rfl in_md (by decide) rfl wd_454 d_md_driveAll_38 ?_
      refine V_ti (b := (n : Int)) hMF ?_
      refine V_cmpge C 60 d_md_driveAll_41 (by decide) ⟨by omega, by omega⟩ ⟨by omega, by omega⟩ (fun h41c => ?_) (fun h41c => ?_)
      · refine V_iload_n C d_md_driveAll_60 0 rfl ?_
        refine V_aload_n C d_md_driveAll_61 2 rfl ?_
        refine V_geti C 32 0 (by decide) rfl rfl in_md (by decide) rfl wd_454 d_md_driveAll_62 ?_
        refine V_ti (b := (n : Int)) hMF ?_
        refine V_cmpge C 89 d_md_driveAll_65 (by decide) ⟨by omega, by omega⟩ ⟨by omega, by omega⟩ (fun h65c => ?_) (fun h65c => ?_)
        · refine V_iinc (lv' := [(2, _), (3, _), (0, _), (1, _)]) C d_md_driveAll_89 1 rfl (by decide) rfl ?_
          refine V_iload_n C d_md_driveAll_92 0 rfl ?_
          refine V_iflt C 107 d_md_driveAll_93 (by decide) ⟨by omega, by omega⟩ (fun h93c => ?_) (fun h93c => ?_)
          · refine V_iconst C d_md_driveAll_107 ?_
            refine V_istore_n (lv' := [(3, _), (2, _), (0, _), (1, _)]) C d_md_driveAll_108 (by decide) rfl ?_
            refine V_goto C 32 d_md_driveAll_109 (by decide) ?_
            refine V_iload_n C d_md_driveAll_32 1 rfl ?_
            refine V_iflt C 112 d_md_driveAll_33 (by decide) ⟨by omega, by omega⟩ (fun h33c => ?_) (fun h33c => ?_)
            · exact V_vret C hr d_md_driveAll_112 rfl
            · exact absurd h33c (by omega)
          · exact absurd h93c (by omega)
        · exact absurd h65c (by omega)
      · exact absurd h41c (by omega)
  · have hj : j < 128 := by omega
    refine V_aload_n C d_md_driveAll_9 1 rfl ?_
    refine V_getr C 32 15 46 (by decide) rfl rfl in_md (by decide) rfl wd_469 d_md_driveAll_10 ?_
    refine V_sipush C d_md_driveAll_13 (by decide) ?_
    refine V_iload_n C d_md_driveAll_16 2 rfl ?_
    refine V_imul C d_md_driveAll_17 ?_
    refine V_iload_n C d_md_driveAll_18 0 rfl ?_
    refine V_iadd C d_md_driveAll_19 ?_
    refine V_iconst C d_md_driveAll_20 ?_
    refine V_iast C 46 (128 * v + j) (by decide) rfl (by omega) (by omega) (by decide) d_md_driveAll_21 ?_
    refine V_iinc (lv' := [(2, _), (0, _), (1, _)]) C d_md_driveAll_22 0 rfl (by decide) rfl ?_
    refine V_goto C 2 d_md_driveAll_25 (by decide) ?_
    refine V_sub (lv' := [(2, _), (0, _), (1, _)]) [0, 1, 2] rfl ?_
    exact ihj hj
