/-! setBefore; the class's calls but run -/
set_option maxRecDepth 20000 in
set_option maxHeartbeats 4000000 in
theorem c_td_setBefore (l : Launch) (w : zW) (σ : Nat → Nat → Int) (a b : Nat) (ha : a < 7) (hb : b < 7) (n : Nat) (hn : σ 1 0 = (n : Int)) (hn7 : n ≤ 7) (h9 : bd σ 9 7 0 127) (h10 : bd σ 10 7 0 127) (h11 : bd σ 11 7 0 127) : zMv l w LL CC g_td_setBefore rm_td_setBefore [.ref (w.1 1), .int (zI ((a : Int))), .int (zI ((b : Int)))] σ (sBefore σ n a b) := by
  refine zMv.of g_td_setBefore (by decide +kernel) (Nat.le_of_ble_eq_true rfl) rfl ?_
  intro p e u m args below meth c C hr
  have C : zC p u m args meth c prog_5_method_8_code 5 "RoundPlans$Told" w LL CC := C
  have hr : meth.sig.returnType = none := hr
  show V p l e rm_td_setBefore u m args below meth c 5 w LL CC 0 0 (MQ below (zQv w LL CC (sBefore σ n a b) u.heap.size) args u 0 0 (zA w LL.1 u.heap.size)) 0 [(0, .ref (w.1 1)), (1, .int (zI ((a : Int)))), (2, .int (zI ((b : Int))))] [] σ
  refine V_aload_n C d_td_setBefore_0 0 rfl ?_
  refine V_getr C 1 10 10 (by decide) rfl rfl in_td (by decide) rfl wd_60 d_td_setBefore_1 ?_
  refine V_iload_n C d_td_setBefore_4 1 rfl ?_
  refine V_aload_n C d_td_setBefore_5 0 rfl ?_
  refine V_getr C 1 10 10 (by decide) rfl rfl in_td (by decide) rfl wd_60 d_td_setBefore_6 ?_
  refine V_iload_n C d_td_setBefore_9 1 rfl ?_
  refine V_iald C 10 _ (by decide) rfl rfl (by omega) (by decide) d_td_setBefore_10 ?_
  refine V_ti (b := (((σ 10 a).toNat : Nat) : Int)) (by show σ 10 a = _; have := h10 a ha; omega) ?_
  refine V_iload_n C d_td_setBefore_11 2 rfl ?_
  refine V_callNi C (c_rp_with l w σ (σ 10 a).toNat b hb) ns_6 wd_275 wd_1 wd_276 o_rp_with ⟨rfl, rfl, Nat.le_of_ble_eq_true rfl, Nat.le_of_ble_eq_true rfl⟩ rfl rfl (Nat.le_of_ble_eq_true rfl) d_td_setBefore_12 ⟨Nat.zero_le _, Nat.zero_le _⟩ ?_
  refine V_iast C 10 _ (by decide) rfl rfl (by omega) (by decide) d_td_setBefore_15 ?_
  refine V_aload_n C d_td_setBefore_16 0 rfl ?_
  refine V_getr C 1 9 9 (by decide) rfl rfl in_td (by decide) rfl wd_58 d_td_setBefore_17 ?_
  refine V_iload_n C d_td_setBefore_20 2 rfl ?_
  refine V_aload_n C d_td_setBefore_21 0 rfl ?_
  refine V_getr C 1 9 9 (by decide) rfl rfl in_td (by decide) rfl wd_58 d_td_setBefore_22 ?_
  refine V_iload_n C d_td_setBefore_25 2 rfl ?_
  refine V_iald C 9 _ (by decide) rfl rfl (by omega) (by decide) d_td_setBefore_26 ?_
  refine V_ti (b := (((σ 9 b).toNat : Nat) : Int)) (by show σ 9 b = _; have := h9 b hb; omega) ?_
  refine V_iload_n C d_td_setBefore_27 1 rfl ?_
  refine V_callNi C (c_rp_with l w _ (σ 9 b).toNat a ha) ns_6 wd_275 wd_1 wd_276 o_rp_with ⟨rfl, rfl, Nat.le_of_ble_eq_true rfl, Nat.le_of_ble_eq_true rfl⟩ rfl rfl (Nat.le_of_ble_eq_true rfl) d_td_setBefore_28 ⟨Nat.zero_le _, Nat.zero_le _⟩ ?_
  refine V_iast C 9 _ (by decide) rfl rfl (by omega) (by decide) d_td_setBefore_31 ?_
  refine V_aload_n C d_td_setBefore_32 0 rfl ?_
  refine V_getr C 1 11 11 (by decide) rfl rfl in_td (by decide) rfl wd_63 d_td_setBefore_33 ?_
  refine V_iload_n C d_td_setBefore_36 2 rfl ?_
  refine V_iald C 11 _ (by decide) rfl rfl (by omega) (by decide) d_td_setBefore_37 ?_
  refine V_ti (b := (((σ 11 b).toNat : Nat) : Int)) (by show σ 11 b = _; have := h11 b hb; omega) ?_
  refine V_iload_n C d_td_setBefore_38 2 rfl ?_
  refine V_callNi C (c_rp_with l w _ (σ 11 b).toNat b hb) ns_6 wd_275 wd_1 wd_276 o_rp_with ⟨rfl, rfl, Nat.le_of_ble_eq_true rfl, Nat.le_of_ble_eq_true rfl⟩ rfl rfl (Nat.le_of_ble_eq_true rfl) d_td_setBefore_39 ⟨Nat.zero_le _, Nat.zero_le _⟩ ?_
  refine V_istore_n (lv' := [(3, _), (0, _), (1, _), (2, _)]) C d_td_setBefore_42 (by decide) rfl ?_
  refine V_iconst C d_td_setBefore_43 ?_
  refine V_istore (lv' := [(4, _), (3, _), (0, _), (1, _), (2, _)]) C d_td_setBefore_44 (by decide) rfl ?_
  refine V_sub (lv' := [(4, _), (3, _), (0, _), (1, _), (2, _)]) [0, 1, 2, 3, 4] rfl ?_
  refine loopUp (n := n) (P := fun i => V p l e rm_td_setBefore u m args below meth c 5 w LL CC 0 0 (MQ below (zQv w LL CC (sBefore σ n a b) u.heap.size) args u 0 0 (zA w LL.1 u.heap.size)) 46 [(4, .int (zI ((i : Int)))), (3, .int (zI (((wi (σ 11 b).toNat b : Nat) : Int)))), (0, .ref (w.1 1)), (1, .int (zI ((a : Int)))), (2, .int (zI ((b : Int))))] [] (rcF (sBef0 σ a b) a (wi (σ 11 b).toNat b) i)) (fun i hii ihi => ?_) 0 (Nat.zero_le _)
  show V p l e rm_td_setBefore u m args below meth c 5 w LL CC 0 0 (MQ below (zQv w LL CC (sBefore σ n a b) u.heap.size) args u 0 0 (zA w LL.1 u.heap.size)) 46 [(4, .int (zI ((i : Int)))), (3, .int (zI (((wi (σ 11 b).toNat b : Nat) : Int)))), (0, .ref (w.1 1)), (1, .int (zI ((a : Int)))), (2, .int (zI ((b : Int))))] [] (rcF (sBef0 σ a b) a (wi (σ 11 b).toNat b) i)
  refine V_iload C d_td_setBefore_46 0 rfl ?_
  refine V_aload_n C d_td_setBefore_48 2 rfl ?_
  refine V_geti C 1 0 (by decide) rfl rfl in_td (by decide) rfl wd_30 d_td_setBefore_49 ?_
  refine V_ti (b := (n : Int)) (by rw [rcF_ne (by decide)]; exact hn) ?_
  refine V_cmpge C 92 d_td_setBefore_52 (by decide) ⟨by omega, by omega⟩ ⟨by omega, by omega⟩ (fun he => ?_) (fun he => ?_)
  · have hin : i = n := by omega
    exact V_vret C hr d_td_setBefore_92 (by subst hin; rfl)
  · have hin : i < n := by omega
    refine V_iload C d_td_setBefore_55 0 rfl ?_
    refine V_iload_n C d_td_setBefore_57 3 rfl ?_
    refine V_cmpeq C 75 d_td_setBefore_58 (by decide) ⟨by omega, by omega⟩ ⟨by omega, by omega⟩ (fun ha1 => ?_) (fun ha1 => ?_)
    · refine V_aload_n C d_td_setBefore_75 2 rfl ?_
      refine V_getr C 1 11 11 (by decide) rfl rfl in_td (by decide) rfl wd_63 d_td_setBefore_76 ?_
      refine V_iload C d_td_setBefore_79 0 rfl ?_
      refine V_dup2 C d_td_setBefore_81 rfl rfl ?_
      refine V_iald C 11 _ (by decide) rfl rfl (by omega) (by decide) d_td_setBefore_82 ?_
      refine V_ti (b := (((σ 11 i).toNat : Nat) : Int)) (by rw [rcF_hi i i (Nat.le_refl _)]; have := h11 i (by omega); show σ 11 i = _; omega) ?_
      refine V_iload_n C d_td_setBefore_83 1 rfl ?_
      refine V_ior C ((((σ 11 i).toNat ||| wi (σ 11 b).toNat b : Nat) : Int)) d_td_setBefore_84 (zI_or _ _) ?_
      refine V_iast C 11 _ (by decide) rfl rfl (by omega) (by decide) d_td_setBefore_85 ?_
      refine V_iinc (lv' := [(4, _), (3, _), (0, _), (1, _), (2, _)]) C d_td_setBefore_86 0 rfl (by decide) rfl ?_
      refine V_goto C 46 d_td_setBefore_89 (by decide) ?_
      refine V_sub (lv' := [(4, _), (3, _), (0, _), (1, _), (2, _)]) [0, 1, 2, 3, 4] rfl ?_
      have hst : rcF (sBef0 σ a b) a (wi (σ 11 b).toNat b) (i + 1) = _ := rfl
      have h9 := ihi hin
      unfold rcF at h9
      rw [show sBef0 σ a b 11 i = σ 11 i from rfl] at h9
      first | (rw [if_pos (Or.inl (by omega))] at h9; exact h9) | (rw [if_pos (Or.inr hh)] at h9; exact h9) | (rw [if_neg (by intro z; rcases z with z | z; omega; exact hh z)] at h9; exact h9)
    · refine V_aload_n C d_td_setBefore_61 2 rfl ?_
      refine V_getr C 1 11 11 (by decide) rfl rfl in_td (by decide) rfl wd_63 d_td_setBefore_62 ?_
      refine V_iload C d_td_setBefore_65 0 rfl ?_
      refine V_iald C 11 _ (by decide) rfl rfl (by omega) (by decide) d_td_setBefore_67 ?_
      refine V_ti (b := (((σ 11 i).toNat : Nat) : Int)) (by rw [rcF_hi i i (Nat.le_refl _)]; have := h11 i (by omega); show σ 11 i = _; omega) ?_
      refine V_iload_n C d_td_setBefore_68 3 rfl ?_
      refine V_callNi C (c_rp_holds l w _ (σ 11 i).toNat a (by have := h11 i (by omega); omega) ha) ns_8 wd_285 wd_1 wd_286 o_rp_holds ⟨rfl, rfl, Nat.le_of_ble_eq_true rfl, Nat.le_of_ble_eq_true rfl⟩ rfl rfl (Nat.le_of_ble_eq_true rfl) d_td_setBefore_69 ⟨Nat.zero_le _, Nat.zero_le _⟩ ?_
      refine V_ifeqB C 86 d_td_setBefore_72 (by decide) (fun hh => ?_) (fun hh => ?_)
      · refine V_iinc (lv' := [(4, _), (3, _), (0, _), (1, _), (2, _)]) C d_td_setBefore_86 0 rfl (by decide) rfl ?_
        refine V_goto C 46 d_td_setBefore_89 (by decide) ?_
        refine V_sub (lv' := [(4, _), (3, _), (0, _), (1, _), (2, _)]) [0, 1, 2, 3, 4] rfl ?_
        have hst : rcF (sBef0 σ a b) a (wi (σ 11 b).toNat b) (i + 1) = _ := rfl
        have h9 := ihi hin
        unfold rcF at h9
        rw [show sBef0 σ a b 11 i = σ 11 i from rfl] at h9
        first | (rw [if_pos (Or.inl (by omega))] at h9; exact h9) | (rw [if_pos (Or.inr hh)] at h9; exact h9) | (rw [if_neg (by intro z; rcases z with z | z; omega; exact hh z)] at h9; exact h9)
      · refine V_aload_n C d_td_setBefore_75 2 rfl ?_
        refine V_getr C 1 11 11 (by decide) rfl rfl in_td (by decide) rfl wd_63 d_td_setBefore_76 ?_
        refine V_iload C d_td_setBefore_79 0 rfl ?_
        refine V_dup2 C d_td_setBefore_81 rfl rfl ?_
        refine V_iald C 11 _ (by decide) rfl rfl (by omega) (by decide) d_td_setBefore_82 ?_
        refine V_ti (b := (((σ 11 i).toNat : Nat) : Int)) (by rw [rcF_hi i i (Nat.le_refl _)]; have := h11 i (by omega); show σ 11 i = _; omega) ?_
        refine V_iload_n C d_td_setBefore_83 1 rfl ?_
        refine V_ior C ((((σ 11 i).toNat ||| wi (σ 11 b).toNat b : Nat) : Int)) d_td_setBefore_84 (zI_or _ _) ?_
        refine V_iast C 11 _ (by decide) rfl rfl (by omega) (by decide) d_td_setBefore_85 ?_
        refine V_iinc (lv' := [(4, _), (3, _), (0, _), (1, _), (2, _)]) C d_td_setBefore_86 0 rfl (by decide) rfl ?_
        refine V_goto C 46 d_td_setBefore_89 (by decide) ?_
        refine V_sub (lv' := [(4, _), (3, _), (0, _), (1, _), (2, _)]) [0, 1, 2, 3, 4] rfl ?_
        have hst : rcF (sBef0 σ a b) a (wi (σ 11 b).toNat b) (i + 1) = _ := rfl
        have h9 := ihi hin
        unfold rcF at h9
        rw [show sBef0 σ a b 11 i = σ 11 i from rfl] at h9
        first | (rw [if_pos (Or.inl (by omega))] at h9; exact h9) | (rw [if_pos (Or.inr hh)] at h9; exact h9) | (rw [if_neg (by intro z; rcases z with z | z; omega; exact hh z)] at h9; exact h9)

set_option maxRecDepth 20000 in
set_option maxHeartbeats 4000000 in
theorem c_rp_stop (l : Launch) (w : zW) (σ : Nat → Nat → Int) (k : Int) (hk : rI k) (n : Nat) (hn : σ 1 0 = (n : Int)) (hn7 : n ≤ 7) : zMi l w LL CC g_rp_stop rm_rp_stop [.ref (w.1 0), .int (zI (k))] σ (if n < 7 ∧ 0 ≤ k ∧ k ≤ 100000 then (n : Int) else -1) (if n < 7 ∧ 0 ≤ k ∧ k ≤ 100000 then zU (zU σ 2 n k) 1 0 (n + 1) else σ) := by
  refine zMi.of g_rp_stop (by decide +kernel) (Nat.le_of_ble_eq_true rfl) rfl ?_
  intro p e u m args below meth c C hr
  have C : zC p u m args meth c prog_1_method_2_code 2 "RoundPlans" w LL CC := C
  have hr : meth.sig.returnType = (some .int) := hr
  obtain ⟨hk1, hk2⟩ := id hk
  show V p l e rm_rp_stop u m args below meth c 2 w LL CC 0 0 (MQ below (zQi w LL CC (if n < 7 ∧ 0 ≤ k ∧ k ≤ 100000 then (n : Int) else -1) (if n < 7 ∧ 0 ≤ k ∧ k ≤ 100000 then zU (zU σ 2 n k) 1 0 (n + 1) else σ) u.heap.size) args u 0 0 (zA w LL.1 u.heap.size)) 0 [(0, .ref (w.1 0)), (1, .int (zI (k)))] [] σ
  refine V_aload_n C d_rp_stop_0 0 rfl ?_
  refine V_getr C 0 0 1 (by decide) rfl rfl in_rp (by decide) rfl wd_197 d_rp_stop_1 ?_
  refine V_geti C 1 0 (by decide) rfl rfl in_td (by decide) rfl wd_29 d_rp_stop_4 ?_
  refine V_ti hn ?_
  refine V_bipush C d_rp_stop_7 (by decide) ?_
  refine V_cmpge C 21 d_rp_stop_9 (by decide) ⟨by omega, by omega⟩ ⟨by omega, by omega⟩ (fun h1 => ?_) (fun h1 => ?_)
  · refine V_iconst C d_rp_stop_21 ?_
    exact V_iret C hr d_rp_stop_22 (by rw [if_neg (by omega)]) (by rw [if_neg (by omega)])
  · refine V_iload_n C d_rp_stop_12 1 rfl ?_
    refine V_ldc C (100000) d_rp_stop_13 wd_214 ?_
    refine V_callSi C (c_rp_isWithin l w σ k 100000 hk ⟨by omega, by omega⟩) wd_215 wd_216 wd_1 wd_217 o_rp_isWithin ⟨rfl, rfl, Nat.le_of_ble_eq_true rfl, Nat.le_of_ble_eq_true rfl⟩ rfl rfl (Nat.le_of_ble_eq_true rfl) d_rp_stop_15 ⟨Nat.zero_le _, Nat.zero_le _⟩ ?_
    refine V_ifneB C 23 d_rp_stop_18 (by decide) (fun h2 => ?_) (fun h2 => ?_)
    · refine V_aload_n C d_rp_stop_23 0 rfl ?_
      refine V_getr C 0 0 1 (by decide) rfl rfl in_rp (by decide) rfl wd_197 d_rp_stop_24 ?_
      refine V_iload_n C d_rp_stop_27 1 rfl ?_
      refine V_callVi C 1 (by decide) rfl rfl (c_td_addStop l w σ k n hn (by omega)) wd_218 wd_219 wd_220 wd_2 wd_221 o_td_addStop ⟨rfl, rfl, Nat.le_of_ble_eq_true rfl, Nat.le_of_ble_eq_true rfl⟩ rfl rfl (Nat.le_of_ble_eq_true rfl) d_rp_stop_28 ⟨Nat.zero_le _, Nat.zero_le _⟩ ?_
      exact V_iret C hr d_rp_stop_31 (by rw [if_pos (by omega)]) (by rw [if_pos (by omega)])
    · refine V_iconst C d_rp_stop_21 ?_
      exact V_iret C hr d_rp_stop_22 (by rw [if_neg (by omega)]) (by rw [if_neg (by omega)])

set_option maxRecDepth 20000 in
set_option maxHeartbeats 4000000 in
theorem c_rp_hours (l : Launch) (w : zW) (σ : Nat → Nat → Int) (k f g q : Int) (hk : rI k) (hf : rI f) (hg : rI g) (hq : rI q) (n : Nat) (hn : σ 1 0 = (n : Int)) (hn7 : n ≤ 7) : zMi l w LL CC g_rp_hours rm_rp_hours [.ref (w.1 0), .int (zI (k)), .int (zI (f)), .int (zI (g)), .int (zI (q))] σ (zB (0 ≤ k ∧ k < n ∧ 0 ≤ f ∧ f ≤ g ∧ g ≤ 86399 ∧ 0 ≤ q ∧ q ≤ 10000)) (if 0 ≤ k ∧ k < n ∧ 0 ≤ f ∧ f ≤ g ∧ g ≤ 86399 ∧ 0 ≤ q ∧ q ≤ 10000 then zU (zU (zU σ 3 k.toNat f) 4 k.toNat g) 5 k.toNat q else σ) := by
  refine zMi.of g_rp_hours (by decide +kernel) (Nat.le_of_ble_eq_true rfl) rfl ?_
  intro p e u m args below meth c C hr
  have C : zC p u m args meth c prog_1_method_3_code 5 "RoundPlans" w LL CC := C
  have hr : meth.sig.returnType = (some .boolean) := hr
  obtain ⟨hk1, hk2⟩ := id hk
  obtain ⟨hf1, hf2⟩ := id hf
  obtain ⟨hg1, hg2⟩ := id hg
  obtain ⟨hq1, hq2⟩ := id hq
  show V p l e rm_rp_hours u m args below meth c 5 w LL CC 0 0 (MQ below (zQi w LL CC (zB (0 ≤ k ∧ k < n ∧ 0 ≤ f ∧ f ≤ g ∧ g ≤ 86399 ∧ 0 ≤ q ∧ q ≤ 10000)) (if 0 ≤ k ∧ k < n ∧ 0 ≤ f ∧ f ≤ g ∧ g ≤ 86399 ∧ 0 ≤ q ∧ q ≤ 10000 then zU (zU (zU σ 3 k.toNat f) 4 k.toNat g) 5 k.toNat q else σ) u.heap.size) args u 0 0 (zA w LL.1 u.heap.size)) 0 [(0, .ref (w.1 0)), (1, .int (zI (k))), (2, .int (zI (f))), (3, .int (zI (g))), (4, .int (zI (q)))] [] σ
  refine V_aload_n C d_rp_hours_0 0 rfl ?_
  refine V_getr C 0 0 1 (by decide) rfl rfl in_rp (by decide) rfl wd_197 d_rp_hours_1 ?_
  refine V_iload_n C d_rp_hours_4 1 rfl ?_
  refine V_callVi C 1 (by decide) rfl rfl (c_td_hasStop l w σ k hk n hn hn7) wd_226 wd_227 wd_228 wd_2 wd_229 o_td_hasStop ⟨rfl, rfl, Nat.le_of_ble_eq_true rfl, Nat.le_of_ble_eq_true rfl⟩ rfl rfl (Nat.le_of_ble_eq_true rfl) d_rp_hours_5 ⟨Nat.zero_le _, Nat.zero_le _⟩ ?_
  refine V_ifeqB C 30 d_rp_hours_8 (by decide) (fun h1 => ?_) (fun h1 => ?_)
  · refine V_iconst C d_rp_hours_30 ?_
    exact V_zret C hr d_rp_hours_31 (by decide) (zB_f (by omega)) (by rw [if_neg (by omega)])
  · refine V_iload_n C d_rp_hours_11 2 rfl ?_
    refine V_iload_n C d_rp_hours_12 3 rfl ?_
    refine V_callSi C (c_rp_isSpan l w σ f g hf hg) wd_230 wd_231 wd_1 wd_232 o_rp_isSpan ⟨rfl, rfl, Nat.le_of_ble_eq_true rfl, Nat.le_of_ble_eq_true rfl⟩ rfl rfl (Nat.le_of_ble_eq_true rfl) d_rp_hours_13 ⟨Nat.zero_le _, Nat.zero_le _⟩ ?_
    refine V_ifeqB C 30 d_rp_hours_16 (by decide) (fun h2 => ?_) (fun h2 => ?_)
    · refine V_iconst C d_rp_hours_30 ?_
      exact V_zret C hr d_rp_hours_31 (by decide) (zB_f (by omega)) (by rw [if_neg (by omega)])
    · refine V_iload C d_rp_hours_19 4 rfl ?_
      refine V_sipush C d_rp_hours_21 (by decide) ?_
      refine V_callSi C (c_rp_isWithin l w σ q 10000 hq ⟨by omega, by omega⟩) wd_215 wd_216 wd_1 wd_217 o_rp_isWithin ⟨rfl, rfl, Nat.le_of_ble_eq_true rfl, Nat.le_of_ble_eq_true rfl⟩ rfl rfl (Nat.le_of_ble_eq_true rfl) d_rp_hours_24 ⟨Nat.zero_le _, Nat.zero_le _⟩ ?_
      refine V_ifneB C 32 d_rp_hours_27 (by decide) (fun h3 => ?_) (fun h3 => ?_)
      · obtain ⟨i, rfl⟩ : ∃ i : Nat, k = (i : Int) := ⟨k.toNat, by omega⟩
        refine V_aload_n C d_rp_hours_32 0 rfl ?_
        refine V_getr C 0 0 1 (by decide) rfl rfl in_rp (by decide) rfl wd_197 d_rp_hours_33 ?_
        refine V_getr C 1 3 3 (by decide) rfl rfl in_td (by decide) rfl wd_42 d_rp_hours_36 ?_
        refine V_iload_n C d_rp_hours_39 1 rfl ?_
        refine V_iload_n C d_rp_hours_40 2 rfl ?_
        refine V_iast C 3 _ (by decide) rfl rfl (by omega) (by decide) d_rp_hours_41 ?_
        refine V_aload_n C d_rp_hours_42 0 rfl ?_
        refine V_getr C 0 0 1 (by decide) rfl rfl in_rp (by decide) rfl wd_197 d_rp_hours_43 ?_
        refine V_getr C 1 4 4 (by decide) rfl rfl in_td (by decide) rfl wd_45 d_rp_hours_46 ?_
        refine V_iload_n C d_rp_hours_49 1 rfl ?_
        refine V_iload_n C d_rp_hours_50 3 rfl ?_
        refine V_iast C 4 _ (by decide) rfl rfl (by omega) (by decide) d_rp_hours_51 ?_
        refine V_aload_n C d_rp_hours_52 0 rfl ?_
        refine V_getr C 0 0 1 (by decide) rfl rfl in_rp (by decide) rfl wd_197 d_rp_hours_53 ?_
        refine V_getr C 1 5 5 (by decide) rfl rfl in_td (by decide) rfl wd_48 d_rp_hours_56 ?_
        refine V_iload_n C d_rp_hours_59 1 rfl ?_
        refine V_iload C d_rp_hours_60 4 rfl ?_
        refine V_iast C 5 _ (by decide) rfl rfl (by omega) (by decide) d_rp_hours_62 ?_
        refine V_iconst C d_rp_hours_63 ?_
        exact V_zret C hr d_rp_hours_64 (by decide) (zB_t (by omega)) (by rw [if_pos (by omega)]; rfl)
      · refine V_iconst C d_rp_hours_30 ?_
        exact V_zret C hr d_rp_hours_31 (by decide) (zB_f (by omega)) (by rw [if_neg (by omega)])

set_option maxRecDepth 20000 in
set_option maxHeartbeats 4000000 in
theorem c_rp_penalty (l : Launch) (w : zW) (σ : Nat → Nat → Int) (k c0 : Int) (hk : rI k) (hc : rL c0) (n : Nat) (hn : σ 1 0 = (n : Int)) (hn7 : n ≤ 7) : zMi l w LL CC g_rp_penalty rm_rp_penalty [.ref (w.1 0), .int (zI (k)), .long (zL (c0))] σ (zB (0 ≤ k ∧ k < n ∧ 0 ≤ c0 ∧ c0 ≤ 1000000000)) (if 0 ≤ k ∧ k < n ∧ 0 ≤ c0 ∧ c0 ≤ 1000000000 then zU σ 6 k.toNat c0 else σ) := by
  refine zMi.of g_rp_penalty (by decide +kernel) (Nat.le_of_ble_eq_true rfl) rfl ?_
  intro p e u m args below meth c C hr
  have C : zC p u m args meth c prog_1_method_4_code 4 "RoundPlans" w LL CC := C
  have hr : meth.sig.returnType = (some .boolean) := hr
  obtain ⟨hk1, hk2⟩ := id hk
  obtain ⟨hc1, hc2⟩ := id hc
  show V p l e rm_rp_penalty u m args below meth c 4 w LL CC 0 0 (MQ below (zQi w LL CC (zB (0 ≤ k ∧ k < n ∧ 0 ≤ c0 ∧ c0 ≤ 1000000000)) (if 0 ≤ k ∧ k < n ∧ 0 ≤ c0 ∧ c0 ≤ 1000000000 then zU σ 6 k.toNat c0 else σ) u.heap.size) args u 0 0 (zA w LL.1 u.heap.size)) 0 [(0, .ref (w.1 0)), (1, .int (zI (k))), (2, .long (zL (c0)))] [] σ
  refine V_aload_n C d_rp_penalty_0 0 rfl ?_
  refine V_getr C 0 0 1 (by decide) rfl rfl in_rp (by decide) rfl wd_197 d_rp_penalty_1 ?_
  refine V_iload_n C d_rp_penalty_4 1 rfl ?_
  refine V_callVi C 1 (by decide) rfl rfl (c_td_hasStop l w σ k hk n hn hn7) wd_226 wd_227 wd_228 wd_2 wd_229 o_td_hasStop ⟨rfl, rfl, Nat.le_of_ble_eq_true rfl, Nat.le_of_ble_eq_true rfl⟩ rfl rfl (Nat.le_of_ble_eq_true rfl) d_rp_penalty_5 ⟨Nat.zero_le _, Nat.zero_le _⟩ ?_
  refine V_ifeqB C 25 d_rp_penalty_8 (by decide) (fun h1 => ?_) (fun h1 => ?_)
  · refine V_iconst C d_rp_penalty_25 ?_
    exact V_zret C hr d_rp_penalty_26 (by decide) (zB_f (by omega)) (by rw [if_neg (by omega)])
  · refine V_lload_n C d_rp_penalty_11 2 rfl ?_
    refine V_lconst C 0 d_rp_penalty_12 rfl ?_
    refine V_lcmp C d_rp_penalty_13 ⟨by omega, by omega⟩ ⟨by omega, by omega⟩ ?_
    refine V_iflt C 25 d_rp_penalty_14 (by decide) (by split; exact rI_1; split; exact rI_0; exact ⟨by decide, by decide⟩) (fun hl1 => ?_) (fun hl1 => ?_)
    · have hl1 : c0 < 0 := by split at hl1; omega; split at hl1 <;> omega
      refine V_iconst C d_rp_penalty_25 ?_
      exact V_zret C hr d_rp_penalty_26 (by decide) (zB_f (by omega)) (by rw [if_neg (by omega)])
    · have hl1 : 0 ≤ c0 := by split at hl1; omega; split at hl1 <;> omega
      refine V_lload_n C d_rp_penalty_17 2 rfl ?_
      refine V_ldc2 C (1000000000) d_rp_penalty_18 wd_238 ?_
      refine V_lcmp C d_rp_penalty_21 ⟨by omega, by omega⟩ ⟨by omega, by omega⟩ ?_
      refine V_ifle C 27 d_rp_penalty_22 (by decide) (by split; exact rI_1; split; exact rI_0; exact ⟨by decide, by decide⟩) (fun hl2 => ?_) (fun hl2 => ?_)
      · have hl2 : c0 ≤ 1000000000 := by split at hl2; omega; split at hl2 <;> omega
        obtain ⟨i, rfl⟩ : ∃ i : Nat, k = (i : Int) := ⟨k.toNat, by omega⟩
        refine V_aload_n C d_rp_penalty_27 0 rfl ?_
        refine V_getr C 0 0 1 (by decide) rfl rfl in_rp (by decide) rfl wd_197 d_rp_penalty_28 ?_
        refine V_getr C 1 6 6 (by decide) rfl rfl in_td (by decide) rfl wd_51 d_rp_penalty_31 ?_
        refine V_iload_n C d_rp_penalty_34 1 rfl ?_
        refine V_lload_n C d_rp_penalty_35 2 rfl ?_
        refine V_last C 6 _ (by decide) rfl rfl (by omega) (by decide) d_rp_penalty_36 ?_
        refine V_iconst C d_rp_penalty_37 ?_
        exact V_zret C hr d_rp_penalty_38 (by decide) (zB_t (by omega)) (by rw [if_pos (by omega)]; rfl)
      · have hl2 : 1000000000 < c0 := by split at hl2; omega; split at hl2 <;> omega
        refine V_iconst C d_rp_penalty_25 ?_
        exact V_zret C hr d_rp_penalty_26 (by decide) (zB_f (by omega)) (by rw [if_neg (by omega)])

set_option maxRecDepth 20000 in
set_option maxHeartbeats 4000000 in
theorem c_rp_vehicle (l : Launch) (w : zW) (σ : Nat → Nat → Int) (a b d r : Int) (ha : rI a) (hb : rI b) (hd : rI d) (hq : rI r) (nv : Nat) (hv : σ 1 1 = (nv : Int)) (hv3 : nv ≤ 3) : zMi l w LL CC g_rp_vehicle rm_rp_vehicle [.ref (w.1 0), .int (zI (a)), .int (zI (b)), .int (zI (d)), .int (zI (r))] σ (if nv < 3 ∧ 0 ≤ a ∧ a ≤ 1000000 ∧ 0 ≤ b ∧ b ≤ d ∧ d ≤ 86399 ∧ 0 ≤ r ∧ r ≤ 1000 then (nv : Int) else -1) (if nv < 3 ∧ 0 ≤ a ∧ a ≤ 1000000 ∧ 0 ≤ b ∧ b ≤ d ∧ d ≤ 86399 ∧ 0 ≤ r ∧ r ≤ 1000 then zU (zU (zU (zU (zU σ 12 nv a) 13 nv b) 14 nv d) 15 nv r) 1 1 (nv + 1) else σ) := by
  refine zMi.of g_rp_vehicle (by decide +kernel) (Nat.le_of_ble_eq_true rfl) rfl ?_
  intro p e u m args below meth c C hr
  have C : zC p u m args meth c prog_1_method_5_code 5 "RoundPlans" w LL CC := C
  have hr : meth.sig.returnType = (some .int) := hr
  obtain ⟨ha1, ha2⟩ := id ha
  obtain ⟨hb1, hb2⟩ := id hb
  obtain ⟨hd1, hd2⟩ := id hd
  obtain ⟨hq1, hq2⟩ := id hq
  show V p l e rm_rp_vehicle u m args below meth c 5 w LL CC 0 0 (MQ below (zQi w LL CC (if nv < 3 ∧ 0 ≤ a ∧ a ≤ 1000000 ∧ 0 ≤ b ∧ b ≤ d ∧ d ≤ 86399 ∧ 0 ≤ r ∧ r ≤ 1000 then (nv : Int) else -1) (if nv < 3 ∧ 0 ≤ a ∧ a ≤ 1000000 ∧ 0 ≤ b ∧ b ≤ d ∧ d ≤ 86399 ∧ 0 ≤ r ∧ r ≤ 1000 then zU (zU (zU (zU (zU σ 12 nv a) 13 nv b) 14 nv d) 15 nv r) 1 1 (nv + 1) else σ) u.heap.size) args u 0 0 (zA w LL.1 u.heap.size)) 0 [(0, .ref (w.1 0)), (1, .int (zI (a))), (2, .int (zI (b))), (3, .int (zI (d))), (4, .int (zI (r)))] [] σ
  refine V_aload_n C d_rp_vehicle_0 0 rfl ?_
  refine V_getr C 0 0 1 (by decide) rfl rfl in_rp (by decide) rfl wd_197 d_rp_vehicle_1 ?_
  refine V_geti C 1 1 (by decide) rfl rfl in_td (by decide) rfl wd_38 d_rp_vehicle_4 ?_
  refine V_ti hv ?_
  refine V_iconst C d_rp_vehicle_7 ?_
  refine V_cmpge C 39 d_rp_vehicle_8 (by decide) ⟨by omega, by omega⟩ ⟨by omega, by omega⟩ (fun h1 => ?_) (fun h1 => ?_)
  · refine V_iconst C d_rp_vehicle_39 ?_
    exact V_iret C hr d_rp_vehicle_40 (by rw [if_neg (by omega)]) (by rw [if_neg (by omega)])
  · refine V_iload_n C d_rp_vehicle_11 1 rfl ?_
    refine V_ldc C (1000000) d_rp_vehicle_12 wd_243 ?_
    refine V_callSi C (c_rp_isWithin l w σ a 1000000 ha ⟨by omega, by omega⟩) wd_215 wd_216 wd_1 wd_217 o_rp_isWithin ⟨rfl, rfl, Nat.le_of_ble_eq_true rfl, Nat.le_of_ble_eq_true rfl⟩ rfl rfl (Nat.le_of_ble_eq_true rfl) d_rp_vehicle_14 ⟨Nat.zero_le _, Nat.zero_le _⟩ ?_
    refine V_ifeqB C 39 d_rp_vehicle_17 (by decide) (fun h2 => ?_) (fun h2 => ?_)
    · refine V_iconst C d_rp_vehicle_39 ?_
      exact V_iret C hr d_rp_vehicle_40 (by rw [if_neg (by omega)]) (by rw [if_neg (by omega)])
    · refine V_iload_n C d_rp_vehicle_20 2 rfl ?_
      refine V_iload_n C d_rp_vehicle_21 3 rfl ?_
      refine V_callSi C (c_rp_isSpan l w σ b d hb hd) wd_230 wd_231 wd_1 wd_232 o_rp_isSpan ⟨rfl, rfl, Nat.le_of_ble_eq_true rfl, Nat.le_of_ble_eq_true rfl⟩ rfl rfl (Nat.le_of_ble_eq_true rfl) d_rp_vehicle_22 ⟨Nat.zero_le _, Nat.zero_le _⟩ ?_
      refine V_ifeqB C 39 d_rp_vehicle_25 (by decide) (fun h3 => ?_) (fun h3 => ?_)
      · refine V_iconst C d_rp_vehicle_39 ?_
        exact V_iret C hr d_rp_vehicle_40 (by rw [if_neg (by omega)]) (by rw [if_neg (by omega)])
      · refine V_iload C d_rp_vehicle_28 4 rfl ?_
        refine V_sipush C d_rp_vehicle_30 (by decide) ?_
        refine V_callSi C (c_rp_isWithin l w σ r 1000 hq ⟨by omega, by omega⟩) wd_215 wd_216 wd_1 wd_217 o_rp_isWithin ⟨rfl, rfl, Nat.le_of_ble_eq_true rfl, Nat.le_of_ble_eq_true rfl⟩ rfl rfl (Nat.le_of_ble_eq_true rfl) d_rp_vehicle_33 ⟨Nat.zero_le _, Nat.zero_le _⟩ ?_
        refine V_ifneB C 41 d_rp_vehicle_36 (by decide) (fun h4 => ?_) (fun h4 => ?_)
        · refine V_aload_n C d_rp_vehicle_41 0 rfl ?_
          refine V_getr C 0 0 1 (by decide) rfl rfl in_rp (by decide) rfl wd_197 d_rp_vehicle_42 ?_
          refine V_iload_n C d_rp_vehicle_45 1 rfl ?_
          refine V_iload_n C d_rp_vehicle_46 2 rfl ?_
          refine V_iload_n C d_rp_vehicle_47 3 rfl ?_
          refine V_iload C d_rp_vehicle_48 4 rfl ?_
          refine V_callVi C 1 (by decide) rfl rfl (c_td_addVehicle l w σ a b d r nv hv (by omega)) wd_244 wd_245 wd_246 wd_2 wd_247 o_td_addVehicle ⟨rfl, rfl, Nat.le_of_ble_eq_true rfl, Nat.le_of_ble_eq_true rfl⟩ rfl rfl (Nat.le_of_ble_eq_true rfl) d_rp_vehicle_50 ⟨Nat.zero_le _, Nat.zero_le _⟩ ?_
          exact V_iret C hr d_rp_vehicle_53 (by rw [if_pos (by omega)]) (by rw [if_pos (by omega)])
        · refine V_iconst C d_rp_vehicle_39 ?_
          exact V_iret C hr d_rp_vehicle_40 (by rw [if_neg (by omega)]) (by rw [if_neg (by omega)])

set_option maxRecDepth 20000 in
set_option maxHeartbeats 4000000 in
theorem c_rp_way (l : Launch) (w : zW) (σ : Nat → Nat → Int) (a b q : Int) (ha : rI a) (hb : rI b) (hq : rI q) : zMi l w LL CC g_rp_way rm_rp_way [.ref (w.1 0), .int (zI (a)), .int (zI (b)), .int (zI (q))] σ (zB (0 ≤ a ∧ a ≤ 7 ∧ 0 ≤ b ∧ b ≤ 7 ∧ a ≠ b ∧ 0 ≤ q ∧ q ≤ 50000)) (if 0 ≤ a ∧ a ≤ 7 ∧ 0 ≤ b ∧ b ≤ 7 ∧ a ≠ b ∧ 0 ≤ q ∧ q ≤ 50000 then zU σ 16 (a.toNat * 8 + b.toNat) q else σ) := by
  refine zMi.of g_rp_way (by decide +kernel) (Nat.le_of_ble_eq_true rfl) rfl ?_
  intro p e u m args below meth c C hr
  have C : zC p u m args meth c prog_1_method_6_code 4 "RoundPlans" w LL CC := C
  have hr : meth.sig.returnType = (some .boolean) := hr
  obtain ⟨ha1, ha2⟩ := id ha
  obtain ⟨hb1, hb2⟩ := id hb
  obtain ⟨hq1, hq2⟩ := id hq
  show V p l e rm_rp_way u m args below meth c 4 w LL CC 0 0 (MQ below (zQi w LL CC (zB (0 ≤ a ∧ a ≤ 7 ∧ 0 ≤ b ∧ b ≤ 7 ∧ a ≠ b ∧ 0 ≤ q ∧ q ≤ 50000)) (if 0 ≤ a ∧ a ≤ 7 ∧ 0 ≤ b ∧ b ≤ 7 ∧ a ≠ b ∧ 0 ≤ q ∧ q ≤ 50000 then zU σ 16 (a.toNat * 8 + b.toNat) q else σ) u.heap.size) args u 0 0 (zA w LL.1 u.heap.size)) 0 [(0, .ref (w.1 0)), (1, .int (zI (a))), (2, .int (zI (b))), (3, .int (zI (q)))] [] σ
  refine V_iload_n C d_rp_way_0 1 rfl ?_
  refine V_bipush C d_rp_way_1 (by decide) ?_
  refine V_callSi C (c_rp_isWithin l w σ a 7 ha ⟨by omega, by omega⟩) wd_215 wd_216 wd_1 wd_217 o_rp_isWithin ⟨rfl, rfl, Nat.le_of_ble_eq_true rfl, Nat.le_of_ble_eq_true rfl⟩ rfl rfl (Nat.le_of_ble_eq_true rfl) d_rp_way_3 ⟨Nat.zero_le _, Nat.zero_le _⟩ ?_
  refine V_ifeqB C 32 d_rp_way_6 (by decide) (fun h1 => ?_) (fun h1 => ?_)
  · refine V_iconst C d_rp_way_32 ?_
    exact V_zret C hr d_rp_way_33 (by decide) (zB_f (by omega)) (by rw [if_neg (by omega)])
  · refine V_iload_n C d_rp_way_9 2 rfl ?_
    refine V_bipush C d_rp_way_10 (by decide) ?_
    refine V_callSi C (c_rp_isWithin l w σ b 7 hb ⟨by omega, by omega⟩) wd_215 wd_216 wd_1 wd_217 o_rp_isWithin ⟨rfl, rfl, Nat.le_of_ble_eq_true rfl, Nat.le_of_ble_eq_true rfl⟩ rfl rfl (Nat.le_of_ble_eq_true rfl) d_rp_way_12 ⟨Nat.zero_le _, Nat.zero_le _⟩ ?_
    refine V_ifeqB C 32 d_rp_way_15 (by decide) (fun h2 => ?_) (fun h2 => ?_)
    · refine V_iconst C d_rp_way_32 ?_
      exact V_zret C hr d_rp_way_33 (by decide) (zB_f (by omega)) (by rw [if_neg (by omega)])
    · refine V_iload_n C d_rp_way_18 1 rfl ?_
      refine V_iload_n C d_rp_way_19 2 rfl ?_
      refine V_cmpeq C 32 d_rp_way_20 (by decide) ⟨by omega, by omega⟩ ⟨by omega, by omega⟩ (fun h3 => ?_) (fun h3 => ?_)
      · refine V_iconst C d_rp_way_32 ?_
        exact V_zret C hr d_rp_way_33 (by decide) (zB_f (by omega)) (by rw [if_neg (by omega)])
      · refine V_iload_n C d_rp_way_23 3 rfl ?_
        refine V_ldc C (50000) d_rp_way_24 wd_252 ?_
        refine V_callSi C (c_rp_isWithin l w σ q 50000 hq ⟨by omega, by omega⟩) wd_215 wd_216 wd_1 wd_217 o_rp_isWithin ⟨rfl, rfl, Nat.le_of_ble_eq_true rfl, Nat.le_of_ble_eq_true rfl⟩ rfl rfl (Nat.le_of_ble_eq_true rfl) d_rp_way_26 ⟨Nat.zero_le _, Nat.zero_le _⟩ ?_
        refine V_ifneB C 34 d_rp_way_29 (by decide) (fun h4 => ?_) (fun h4 => ?_)
        · obtain ⟨i, rfl⟩ : ∃ i : Nat, a = (i : Int) := ⟨a.toNat, by omega⟩
          obtain ⟨j, rfl⟩ : ∃ j : Nat, b = (j : Int) := ⟨b.toNat, by omega⟩
          refine V_aload_n C d_rp_way_34 0 rfl ?_
          refine V_getr C 0 0 1 (by decide) rfl rfl in_rp (by decide) rfl wd_197 d_rp_way_35 ?_
          refine V_getr C 1 16 16 (by decide) rfl rfl in_td (by decide) rfl wd_75 d_rp_way_38 ?_
          refine V_iload_n C d_rp_way_41 1 rfl ?_
          refine V_bipush C d_rp_way_42 (by decide) ?_
          refine V_imul C d_rp_way_44 ?_
          refine V_iload_n C d_rp_way_45 2 rfl ?_
          refine V_iadd C d_rp_way_46 ?_
          refine V_iload_n C d_rp_way_47 3 rfl ?_
          refine V_iast C 16 (i * 8 + j) (by decide) rfl (by omega) (by omega) (by decide) d_rp_way_48 ?_
          refine V_iconst C d_rp_way_49 ?_
          exact V_zret C hr d_rp_way_50 (by decide) (zB_t (by omega)) (by rw [if_pos (by omega)]; rfl)
        · refine V_iconst C d_rp_way_32 ?_
          exact V_zret C hr d_rp_way_33 (by decide) (zB_f (by omega)) (by rw [if_neg (by omega)])

set_option maxRecDepth 20000 in
set_option maxHeartbeats 4000000 in
theorem c_rp_fixed (l : Launch) (w : zW) (σ : Nat → Nat → Int) (k v : Int) (hk : rI k) (hq : rI v) (n : Nat) (hn : σ 1 0 = (n : Int)) (hn7 : n ≤ 7) (nv : Nat) (hv : σ 1 1 = (nv : Int)) (hv3 : nv ≤ 3) : zMi l w LL CC g_rp_fixed rm_rp_fixed [.ref (w.1 0), .int (zI (k)), .int (zI (v))] σ (zB (0 ≤ k ∧ k < n ∧ -1 ≤ v ∧ v < nv)) (if 0 ≤ k ∧ k < n ∧ -1 ≤ v ∧ v < nv then zU σ 7 k.toNat v else σ) := by
  refine zMi.of g_rp_fixed (by decide +kernel) (Nat.le_of_ble_eq_true rfl) rfl ?_
  intro p e u m args below meth c C hr
  have C : zC p u m args meth c prog_1_method_7_code 3 "RoundPlans" w LL CC := C
  have hr : meth.sig.returnType = (some .boolean) := hr
  obtain ⟨hk1, hk2⟩ := id hk
  obtain ⟨hq1, hq2⟩ := id hq
  show V p l e rm_rp_fixed u m args below meth c 3 w LL CC 0 0 (MQ below (zQi w LL CC (zB (0 ≤ k ∧ k < n ∧ -1 ≤ v ∧ v < nv)) (if 0 ≤ k ∧ k < n ∧ -1 ≤ v ∧ v < nv then zU σ 7 k.toNat v else σ) u.heap.size) args u 0 0 (zA w LL.1 u.heap.size)) 0 [(0, .ref (w.1 0)), (1, .int (zI (k))), (2, .int (zI (v)))] [] σ
  refine V_aload_n C d_rp_fixed_0 0 rfl ?_
  refine V_getr C 0 0 1 (by decide) rfl rfl in_rp (by decide) rfl wd_197 d_rp_fixed_1 ?_
  refine V_iload_n C d_rp_fixed_4 1 rfl ?_
  refine V_callVi C 1 (by decide) rfl rfl (c_td_hasStop l w σ k hk n hn hn7) wd_226 wd_227 wd_228 wd_2 wd_229 o_td_hasStop ⟨rfl, rfl, Nat.le_of_ble_eq_true rfl, Nat.le_of_ble_eq_true rfl⟩ rfl rfl (Nat.le_of_ble_eq_true rfl) d_rp_fixed_5 ⟨Nat.zero_le _, Nat.zero_le _⟩ ?_
  refine V_ifeqB C 27 d_rp_fixed_8 (by decide) (fun h1 => ?_) (fun h1 => ?_)
  · refine V_iconst C d_rp_fixed_27 ?_
    exact V_zret C hr d_rp_fixed_28 (by decide) (zB_f (by omega)) (by rw [if_neg (by omega)])
  · refine V_iload_n C d_rp_fixed_11 2 rfl ?_
    refine V_iconst C d_rp_fixed_12 ?_
    refine V_cmpeq C 29 d_rp_fixed_13 (by decide) ⟨by omega, by omega⟩ ⟨by omega, by omega⟩ (fun h2 => ?_) (fun h2 => ?_)
    · obtain ⟨i, rfl⟩ : ∃ i : Nat, k = (i : Int) := ⟨k.toNat, by omega⟩
      refine V_aload_n C d_rp_fixed_29 0 rfl ?_
      refine V_getr C 0 0 1 (by decide) rfl rfl in_rp (by decide) rfl wd_197 d_rp_fixed_30 ?_
      refine V_getr C 1 7 7 (by decide) rfl rfl in_td (by decide) rfl wd_55 d_rp_fixed_33 ?_
      refine V_iload_n C d_rp_fixed_36 1 rfl ?_
      refine V_iload_n C d_rp_fixed_37 2 rfl ?_
      refine V_iast C 7 _ (by decide) rfl rfl (by omega) (by decide) d_rp_fixed_38 ?_
      refine V_iconst C d_rp_fixed_39 ?_
      exact V_zret C hr d_rp_fixed_40 (by decide) (zB_t (by omega)) (by rw [if_pos (by omega)]; rfl)
    · refine V_aload_n C d_rp_fixed_16 0 rfl ?_
      refine V_getr C 0 0 1 (by decide) rfl rfl in_rp (by decide) rfl wd_197 d_rp_fixed_17 ?_
      refine V_iload_n C d_rp_fixed_20 2 rfl ?_
      refine V_callVi C 1 (by decide) rfl rfl (c_td_hasVehicle l w σ v hq nv hv hv3) wd_257 wd_258 wd_259 wd_2 wd_260 o_td_hasVehicle ⟨rfl, rfl, Nat.le_of_ble_eq_true rfl, Nat.le_of_ble_eq_true rfl⟩ rfl rfl (Nat.le_of_ble_eq_true rfl) d_rp_fixed_21 ⟨Nat.zero_le _, Nat.zero_le _⟩ ?_
      refine V_ifneB C 29 d_rp_fixed_24 (by decide) (fun h3 => ?_) (fun h3 => ?_)
      · obtain ⟨i, rfl⟩ : ∃ i : Nat, k = (i : Int) := ⟨k.toNat, by omega⟩
        refine V_aload_n C d_rp_fixed_29 0 rfl ?_
        refine V_getr C 0 0 1 (by decide) rfl rfl in_rp (by decide) rfl wd_197 d_rp_fixed_30 ?_
        refine V_getr C 1 7 7 (by decide) rfl rfl in_td (by decide) rfl wd_55 d_rp_fixed_33 ?_
        refine V_iload_n C d_rp_fixed_36 1 rfl ?_
        refine V_iload_n C d_rp_fixed_37 2 rfl ?_
        refine V_iast C 7 _ (by decide) rfl rfl (by omega) (by decide) d_rp_fixed_38 ?_
        refine V_iconst C d_rp_fixed_39 ?_
        exact V_zret C hr d_rp_fixed_40 (by decide) (zB_t (by omega)) (by rw [if_pos (by omega)]; rfl)
      · refine V_iconst C d_rp_fixed_27 ?_
        exact V_zret C hr d_rp_fixed_28 (by decide) (zB_f (by omega)) (by rw [if_neg (by omega)])

set_option maxRecDepth 20000 in
set_option maxHeartbeats 4000000 in
theorem c_rp_apart (l : Launch) (w : zW) (σ : Nat → Nat → Int) (a b t : Int) (ha : rI a) (hb : rI b) (ht : t = 0 ∨ t = 1) (hx : bd σ 8 7 0 127) (n : Nat) (hn : σ 1 0 = (n : Int)) (hn7 : n ≤ 7) : zMi l w LL CC g_rp_apart rm_rp_apart [.ref (w.1 0), .int (zI (a)), .int (zI (b)), .int (zI (t))] σ (zB (0 ≤ a ∧ a < n ∧ 0 ≤ b ∧ b < n ∧ a ≠ b)) (if 0 ≤ a ∧ a < n ∧ 0 ≤ b ∧ b < n ∧ a ≠ b then sApart σ a.toNat b.toNat t else σ) := by
  refine zMi.of g_rp_apart (by decide +kernel) (Nat.le_of_ble_eq_true rfl) rfl ?_
  intro p e u m args below meth c C hr
  have C : zC p u m args meth c prog_1_method_8_code 4 "RoundPlans" w LL CC := C
  have hr : meth.sig.returnType = (some .boolean) := hr
  obtain ⟨ha1, ha2⟩ := id ha
  obtain ⟨hb1, hb2⟩ := id hb
  show V p l e rm_rp_apart u m args below meth c 4 w LL CC 0 0 (MQ below (zQi w LL CC (zB (0 ≤ a ∧ a < n ∧ 0 ≤ b ∧ b < n ∧ a ≠ b)) (if 0 ≤ a ∧ a < n ∧ 0 ≤ b ∧ b < n ∧ a ≠ b then sApart σ a.toNat b.toNat t else σ) u.heap.size) args u 0 0 (zA w LL.1 u.heap.size)) 0 [(0, .ref (w.1 0)), (1, .int (zI (a))), (2, .int (zI (b))), (3, .int (zI (t)))] [] σ
  refine V_aload_n C d_rp_apart_0 0 rfl ?_
  refine V_getr C 0 0 1 (by decide) rfl rfl in_rp (by decide) rfl wd_197 d_rp_apart_1 ?_
  refine V_iload_n C d_rp_apart_4 1 rfl ?_
  refine V_iload_n C d_rp_apart_5 2 rfl ?_
  refine V_callVi C 1 (by decide) rfl rfl (c_td_areTwoStops l w σ a b ha hb n hn hn7) wd_265 wd_266 wd_267 wd_2 wd_268 o_td_areTwoStops ⟨rfl, rfl, Nat.le_of_ble_eq_true rfl, Nat.le_of_ble_eq_true rfl⟩ rfl rfl (Nat.le_of_ble_eq_true rfl) d_rp_apart_6 ⟨Nat.zero_le _, Nat.zero_le _⟩ ?_
  refine V_ifneB C 14 d_rp_apart_9 (by decide) (fun h1 => ?_) (fun h1 => ?_)
  · obtain ⟨i, rfl⟩ : ∃ i : Nat, a = (i : Int) := ⟨a.toNat, by omega⟩
    obtain ⟨j, rfl⟩ : ∃ j : Nat, b = (j : Int) := ⟨b.toNat, by omega⟩
    refine V_aload_n C d_rp_apart_14 0 rfl ?_
    refine V_getr C 0 0 1 (by decide) rfl rfl in_rp (by decide) rfl wd_197 d_rp_apart_15 ?_
    refine V_iload_n C d_rp_apart_18 1 rfl ?_
    refine V_iload_n C d_rp_apart_19 2 rfl ?_
    refine V_iload_n C d_rp_apart_20 3 rfl ?_
    refine V_callVv C 1 (by decide) rfl rfl (c_td_setApart l w σ i j (by omega) (by omega) (by omega) t ht hx) wd_270 wd_271 wd_272 wd_2 wd_273 o_td_setApart ⟨rfl, rfl, Nat.le_of_ble_eq_true rfl, Nat.le_of_ble_eq_true rfl⟩ rfl rfl (Nat.le_of_ble_eq_true rfl) d_rp_apart_21 ⟨Nat.zero_le _, Nat.zero_le _⟩ ?_
    refine V_iconst C d_rp_apart_24 ?_
    exact V_zret C hr d_rp_apart_25 (by decide) (zB_t (by omega)) (by rw [if_pos (by omega)]; rfl)
  · refine V_iconst C d_rp_apart_12 ?_
    exact V_zret C hr d_rp_apart_13 (by decide) (zB_f (by omega)) (by rw [if_neg (by omega)])

set_option maxRecDepth 20000 in
set_option maxHeartbeats 4000000 in
theorem c_rp_before (l : Launch) (w : zW) (σ : Nat → Nat → Int) (a b : Int) (ha : rI a) (hb : rI b) (n : Nat) (hn : σ 1 0 = (n : Int)) (hn7 : n ≤ 7) (h9 : bd σ 9 7 0 127) (h10 : bd σ 10 7 0 127) (h11 : bd σ 11 7 0 127) : zMi l w LL CC g_rp_before rm_rp_before [.ref (w.1 0), .int (zI (a)), .int (zI (b))] σ (zB (0 ≤ a ∧ a < n ∧ 0 ≤ b ∧ b < n ∧ a ≠ b ∧ ¬ (σ 10 a.toNat).toNat.testBit b.toNat = true ∧ ¬ (σ 11 b.toNat).toNat.testBit a.toNat = true)) (if 0 ≤ a ∧ a < n ∧ 0 ≤ b ∧ b < n ∧ a ≠ b ∧ ¬ (σ 10 a.toNat).toNat.testBit b.toNat = true ∧ ¬ (σ 11 b.toNat).toNat.testBit a.toNat = true then sBefore σ n a.toNat b.toNat else σ) := by
  refine zMi.of g_rp_before (by decide +kernel) (Nat.le_of_ble_eq_true rfl) rfl ?_
  intro p e u m args below meth c C hr
  have C : zC p u m args meth c prog_1_method_9_code 3 "RoundPlans" w LL CC := C
  have hr : meth.sig.returnType = (some .boolean) := hr
  obtain ⟨ha3, ha4⟩ := id ha
  obtain ⟨hb3, hb4⟩ := id hb
  show V p l e rm_rp_before u m args below meth c 3 w LL CC 0 0 (MQ below (zQi w LL CC (zB (0 ≤ a ∧ a < n ∧ 0 ≤ b ∧ b < n ∧ a ≠ b ∧ ¬ (σ 10 a.toNat).toNat.testBit b.toNat = true ∧ ¬ (σ 11 b.toNat).toNat.testBit a.toNat = true)) (if 0 ≤ a ∧ a < n ∧ 0 ≤ b ∧ b < n ∧ a ≠ b ∧ ¬ (σ 10 a.toNat).toNat.testBit b.toNat = true ∧ ¬ (σ 11 b.toNat).toNat.testBit a.toNat = true then sBefore σ n a.toNat b.toNat else σ) u.heap.size) args u 0 0 (zA w LL.1 u.heap.size)) 0 [(0, .ref (w.1 0)), (1, .int (zI (a))), (2, .int (zI (b)))] [] σ
  refine V_aload_n C d_rp_before_0 0 rfl ?_
  refine V_getr C 0 0 1 (by decide) rfl rfl in_rp (by decide) rfl wd_197 d_rp_before_1 ?_
  refine V_iload_n C d_rp_before_4 1 rfl ?_
  refine V_iload_n C d_rp_before_5 2 rfl ?_
  refine V_callVi C 1 (by decide) rfl rfl (c_td_areTwoStops l w σ a b ha hb n hn hn7) wd_265 wd_266 wd_267 wd_2 wd_268 o_td_areTwoStops ⟨rfl, rfl, Nat.le_of_ble_eq_true rfl, Nat.le_of_ble_eq_true rfl⟩ rfl rfl (Nat.le_of_ble_eq_true rfl) d_rp_before_6 ⟨Nat.zero_le _, Nat.zero_le _⟩ ?_
  refine V_ifeqB C 44 d_rp_before_9 (by decide) (fun ht => ?_) (fun ht => ?_)
  · refine V_iconst C d_rp_before_44 ?_
    exact V_zret C hr d_rp_before_45 (by decide) (zB_f (by intro z; first | omega | (exact z.2.2.2.2.2.1 hb1) | (exact z.2.2.2.2.2.2 hb2))) (by rw [if_neg (by intro z; first | omega | (exact z.2.2.2.2.2.1 hb1) | (exact z.2.2.2.2.2.2 hb2))])
  · obtain ⟨i, rfl⟩ : ∃ i : Nat, a = (i : Int) := ⟨a.toNat, by omega⟩
    obtain ⟨j, rfl⟩ : ∃ j : Nat, b = (j : Int) := ⟨b.toNat, by omega⟩
    refine V_aload_n C d_rp_before_12 0 rfl ?_
    refine V_getr C 0 0 1 (by decide) rfl rfl in_rp (by decide) rfl wd_197 d_rp_before_13 ?_
    refine V_getr C 1 10 10 (by decide) rfl rfl in_td (by decide) rfl wd_62 d_rp_before_16 ?_
    refine V_iload_n C d_rp_before_19 1 rfl ?_
    refine V_iald C 10 _ (by decide) rfl rfl (by omega) (by decide) d_rp_before_20 ?_
    refine V_ti (b := (((σ 10 i).toNat : Nat) : Int)) (by show σ 10 i = _; have := h10 i (by omega); omega) ?_
    refine V_iload_n C d_rp_before_21 2 rfl ?_
    refine V_callSi C (c_rp_holds l w σ (σ 10 i).toNat j (by have := h10 i (by omega); omega) (by omega)) wd_284 wd_285 wd_1 wd_286 o_rp_holds ⟨rfl, rfl, Nat.le_of_ble_eq_true rfl, Nat.le_of_ble_eq_true rfl⟩ rfl rfl (Nat.le_of_ble_eq_true rfl) d_rp_before_22 ⟨Nat.zero_le _, Nat.zero_le _⟩ ?_
    refine V_ifneB C 44 d_rp_before_25 (by decide) (fun hb1 => ?_) (fun hb1 => ?_)
    · refine V_iconst C d_rp_before_44 ?_
      exact V_zret C hr d_rp_before_45 (by decide) (zB_f (by intro z; first | omega | (exact z.2.2.2.2.2.1 hb1) | (exact z.2.2.2.2.2.2 hb2))) (by rw [if_neg (by intro z; first | omega | (exact z.2.2.2.2.2.1 hb1) | (exact z.2.2.2.2.2.2 hb2))])
    · refine V_aload_n C d_rp_before_28 0 rfl ?_
      refine V_getr C 0 0 1 (by decide) rfl rfl in_rp (by decide) rfl wd_197 d_rp_before_29 ?_
      refine V_getr C 1 11 11 (by decide) rfl rfl in_td (by decide) rfl wd_64 d_rp_before_32 ?_
      refine V_iload_n C d_rp_before_35 2 rfl ?_
      refine V_iald C 11 _ (by decide) rfl rfl (by omega) (by decide) d_rp_before_36 ?_
      refine V_ti (b := (((σ 11 j).toNat : Nat) : Int)) (by show σ 11 j = _; have := h11 j (by omega); omega) ?_
      refine V_iload_n C d_rp_before_37 1 rfl ?_
      refine V_callSi C (c_rp_holds l w σ (σ 11 j).toNat i (by have := h11 j (by omega); omega) (by omega)) wd_284 wd_285 wd_1 wd_286 o_rp_holds ⟨rfl, rfl, Nat.le_of_ble_eq_true rfl, Nat.le_of_ble_eq_true rfl⟩ rfl rfl (Nat.le_of_ble_eq_true rfl) d_rp_before_38 ⟨Nat.zero_le _, Nat.zero_le _⟩ ?_
      refine V_ifeqB C 46 d_rp_before_41 (by decide) (fun hb2 => ?_) (fun hb2 => ?_)
      · refine V_aload_n C d_rp_before_46 0 rfl ?_
        refine V_getr C 0 0 1 (by decide) rfl rfl in_rp (by decide) rfl wd_197 d_rp_before_47 ?_
        refine V_iload_n C d_rp_before_50 1 rfl ?_
        refine V_iload_n C d_rp_before_51 2 rfl ?_
        refine V_callVv C 1 (by decide) rfl rfl (c_td_setBefore l w σ i j (by omega) (by omega) n hn hn7 h9 h10 h11) wd_287 wd_288 wd_289 wd_2 wd_290 o_td_setBefore ⟨rfl, rfl, Nat.le_of_ble_eq_true rfl, Nat.le_of_ble_eq_true rfl⟩ rfl rfl (Nat.le_of_ble_eq_true rfl) d_rp_before_52 ⟨Nat.zero_le _, Nat.zero_le _⟩ ?_
        refine V_iconst C d_rp_before_55 ?_
        exact V_zret C hr d_rp_before_56 (by decide) (zB_t ⟨by omega, by omega, by omega, by omega, by omega, hb1, hb2⟩) (by rw [if_pos ⟨by omega, by omega, by omega, by omega, by omega, hb1, hb2⟩]; rfl)
      · refine V_iconst C d_rp_before_44 ?_
        exact V_zret C hr d_rp_before_45 (by decide) (zB_f (by intro z; first | omega | (exact z.2.2.2.2.2.1 hb1) | (exact z.2.2.2.2.2.2 hb2))) (by rw [if_neg (by intro z; first | omega | (exact z.2.2.2.2.2.1 hb1) | (exact z.2.2.2.2.2.2 hb2))])

set_option maxRecDepth 20000 in
set_option maxHeartbeats 4000000 in
theorem c_rp_cost (l : Launch) (w : zW) (σ : Nat → Nat → Int)  : zMl l w LL CC g_rp_cost rm_rp_cost [.ref (w.1 0)] σ (σ 25 2) (σ) := by
  refine zMl.of g_rp_cost (by decide +kernel) (Nat.le_of_ble_eq_true rfl) rfl ?_
  intro p e u m args below meth c C hr
  have C : zC p u m args meth c prog_1_method_11_code 1 "RoundPlans" w LL CC := C
  have hr : meth.sig.returnType = (some .long) := hr
  show V p l e rm_rp_cost u m args below meth c 1 w LL CC 0 0 (MQ below (zQl w LL CC (σ 25 2) (σ) u.heap.size) args u 0 0 (zA w LL.1 u.heap.size)) 0 [(0, .ref (w.1 0))] [] σ
  refine V_aload_n C d_rp_cost_0 0 rfl ?_
  refine V_getr C 0 3 25 (by decide) rfl rfl in_rp (by decide) rfl wd_200 d_rp_cost_1 ?_
  refine V_getl C 25 2 (by decide) rfl rfl in_fd (by decide) rfl wd_164 d_rp_cost_4 ?_
  exact V_lret C hr d_rp_cost_7 rfl rfl

set_option maxRecDepth 20000 in
set_option maxHeartbeats 4000000 in
theorem c_rp_vehicleOf (l : Launch) (w : zW) (σ : Nat → Nat → Int) (k : Int) (hk : rI k) (n : Nat) (hn : σ 25 0 = (n : Int)) (hn7 : n ≤ 7) : zMi l w LL CC g_rp_vehicleOf rm_rp_vehicleOf [.ref (w.1 0), .int (zI (k))] σ (if 0 ≤ k ∧ k < n then σ 26 k.toNat else -1) (σ) := by
  refine zMi.of g_rp_vehicleOf (by decide +kernel) (Nat.le_of_ble_eq_true rfl) rfl ?_
  intro p e u m args below meth c C hr
  have C : zC p u m args meth c prog_1_method_12_code 2 "RoundPlans" w LL CC := C
  have hr : meth.sig.returnType = (some .int) := hr
  obtain ⟨hk1, hk2⟩ := id hk
  show V p l e rm_rp_vehicleOf u m args below meth c 2 w LL CC 0 0 (MQ below (zQi w LL CC (if 0 ≤ k ∧ k < n then σ 26 k.toNat else -1) (σ) u.heap.size) args u 0 0 (zA w LL.1 u.heap.size)) 0 [(0, .ref (w.1 0)), (1, .int (zI (k)))] [] σ
  refine V_aload_n C d_rp_vehicleOf_0 0 rfl ?_
  refine V_getr C 0 3 25 (by decide) rfl rfl in_rp (by decide) rfl wd_200 d_rp_vehicleOf_1 ?_
  refine V_iload_n C d_rp_vehicleOf_4 1 rfl ?_
  refine V_callVi C 25 (by decide) rfl rfl (c_fd_hasStop l w σ k hk n hn hn7) wd_423 wd_424 wd_425 wd_6 wd_426 o_fd_hasStop ⟨rfl, rfl, Nat.le_of_ble_eq_true rfl, Nat.le_of_ble_eq_true rfl⟩ rfl rfl (Nat.le_of_ble_eq_true rfl) d_rp_vehicleOf_5 ⟨Nat.zero_le _, Nat.zero_le _⟩ ?_
  refine V_ifeqB C 23 d_rp_vehicleOf_8 (by decide) (fun h1 => ?_) (fun h1 => ?_)
  · refine V_iconst C d_rp_vehicleOf_23 ?_
    exact V_iret C hr d_rp_vehicleOf_24 (by rw [if_neg (by omega)]) rfl
  · obtain ⟨i, rfl⟩ : ∃ i : Nat, k = (i : Int) := ⟨k.toNat, by omega⟩
    refine V_aload_n C d_rp_vehicleOf_11 0 rfl ?_
    refine V_getr C 0 3 25 (by decide) rfl rfl in_rp (by decide) rfl wd_200 d_rp_vehicleOf_12 ?_
    refine V_getr C 25 3 26 (by decide) rfl rfl in_fd (by decide) rfl wd_166 d_rp_vehicleOf_15 ?_
    refine V_iload_n C d_rp_vehicleOf_18 1 rfl ?_
    refine V_iald C 26 _ (by decide) rfl rfl (by omega) (by decide) d_rp_vehicleOf_19 ?_
    refine V_goto C 24 d_rp_vehicleOf_20 (by decide) ?_
    exact V_iret C hr d_rp_vehicleOf_24 (by rw [if_pos (by omega)]; rfl) rfl

set_option maxRecDepth 20000 in
set_option maxHeartbeats 4000000 in
theorem c_rp_begun (l : Launch) (w : zW) (σ : Nat → Nat → Int) (k : Int) (hk : rI k) (n : Nat) (hn : σ 25 0 = (n : Int)) (hn7 : n ≤ 7) : zMi l w LL CC g_rp_begun rm_rp_begun [.ref (w.1 0), .int (zI (k))] σ (if 0 ≤ k ∧ k < n then σ 27 k.toNat else -1) (σ) := by
  refine zMi.of g_rp_begun (by decide +kernel) (Nat.le_of_ble_eq_true rfl) rfl ?_
  intro p e u m args below meth c C hr
  have C : zC p u m args meth c prog_1_method_14_code 2 "RoundPlans" w LL CC := C
  have hr : meth.sig.returnType = (some .int) := hr
  obtain ⟨hk1, hk2⟩ := id hk
  show V p l e rm_rp_begun u m args below meth c 2 w LL CC 0 0 (MQ below (zQi w LL CC (if 0 ≤ k ∧ k < n then σ 27 k.toNat else -1) (σ) u.heap.size) args u 0 0 (zA w LL.1 u.heap.size)) 0 [(0, .ref (w.1 0)), (1, .int (zI (k)))] [] σ
  refine V_aload_n C d_rp_begun_0 0 rfl ?_
  refine V_getr C 0 3 25 (by decide) rfl rfl in_rp (by decide) rfl wd_200 d_rp_begun_1 ?_
  refine V_iload_n C d_rp_begun_4 1 rfl ?_
  refine V_callVi C 25 (by decide) rfl rfl (c_fd_hasStop l w σ k hk n hn hn7) wd_423 wd_424 wd_425 wd_6 wd_426 o_fd_hasStop ⟨rfl, rfl, Nat.le_of_ble_eq_true rfl, Nat.le_of_ble_eq_true rfl⟩ rfl rfl (Nat.le_of_ble_eq_true rfl) d_rp_begun_5 ⟨Nat.zero_le _, Nat.zero_le _⟩ ?_
  refine V_ifeqB C 23 d_rp_begun_8 (by decide) (fun h1 => ?_) (fun h1 => ?_)
  · refine V_iconst C d_rp_begun_23 ?_
    exact V_iret C hr d_rp_begun_24 (by rw [if_neg (by omega)]) rfl
  · obtain ⟨i, rfl⟩ : ∃ i : Nat, k = (i : Int) := ⟨k.toNat, by omega⟩
    refine V_aload_n C d_rp_begun_11 0 rfl ?_
    refine V_getr C 0 3 25 (by decide) rfl rfl in_rp (by decide) rfl wd_200 d_rp_begun_12 ?_
    refine V_getr C 25 4 27 (by decide) rfl rfl in_fd (by decide) rfl wd_168 d_rp_begun_15 ?_
    refine V_iload_n C d_rp_begun_18 1 rfl ?_
    refine V_iald C 27 _ (by decide) rfl rfl (by omega) (by decide) d_rp_begun_19 ?_
    refine V_goto C 24 d_rp_begun_20 (by decide) ?_
    exact V_iret C hr d_rp_begun_24 (by rw [if_pos (by omega)]; rfl) rfl

set_option maxRecDepth 20000 in
set_option maxHeartbeats 4000000 in
theorem c_rp_back (l : Launch) (w : zW) (σ : Nat → Nat → Int) (k : Int) (hk : rI k) (nv : Nat) (hv : σ 25 1 = (nv : Int)) (hv3 : nv ≤ 3) : zMi l w LL CC g_rp_back rm_rp_back [.ref (w.1 0), .int (zI (k))] σ (if 0 ≤ k ∧ k < nv then σ 30 k.toNat else -1) (σ) := by
  refine zMi.of g_rp_back (by decide +kernel) (Nat.le_of_ble_eq_true rfl) rfl ?_
  intro p e u m args below meth c C hr
  have C : zC p u m args meth c prog_1_method_15_code 2 "RoundPlans" w LL CC := C
  have hr : meth.sig.returnType = (some .int) := hr
  obtain ⟨hk1, hk2⟩ := id hk
  show V p l e rm_rp_back u m args below meth c 2 w LL CC 0 0 (MQ below (zQi w LL CC (if 0 ≤ k ∧ k < nv then σ 30 k.toNat else -1) (σ) u.heap.size) args u 0 0 (zA w LL.1 u.heap.size)) 0 [(0, .ref (w.1 0)), (1, .int (zI (k)))] [] σ
  refine V_aload_n C d_rp_back_0 0 rfl ?_
  refine V_getr C 0 3 25 (by decide) rfl rfl in_rp (by decide) rfl wd_200 d_rp_back_1 ?_
  refine V_iload_n C d_rp_back_4 1 rfl ?_
  refine V_callVi C 25 (by decide) rfl rfl (c_fd_hasVehicle l w σ k hk nv hv hv3) wd_431 wd_432 wd_433 wd_6 wd_434 o_fd_hasVehicle ⟨rfl, rfl, Nat.le_of_ble_eq_true rfl, Nat.le_of_ble_eq_true rfl⟩ rfl rfl (Nat.le_of_ble_eq_true rfl) d_rp_back_5 ⟨Nat.zero_le _, Nat.zero_le _⟩ ?_
  refine V_ifeqB C 23 d_rp_back_8 (by decide) (fun h1 => ?_) (fun h1 => ?_)
  · refine V_iconst C d_rp_back_23 ?_
    exact V_iret C hr d_rp_back_24 (by rw [if_neg (by omega)]) rfl
  · obtain ⟨i, rfl⟩ : ∃ i : Nat, k = (i : Int) := ⟨k.toNat, by omega⟩
    refine V_aload_n C d_rp_back_11 0 rfl ?_
    refine V_getr C 0 3 25 (by decide) rfl rfl in_rp (by decide) rfl wd_200 d_rp_back_12 ?_
    refine V_getr C 25 7 30 (by decide) rfl rfl in_fd (by decide) rfl wd_175 d_rp_back_15 ?_
    refine V_iload_n C d_rp_back_18 1 rfl ?_
    refine V_iald C 30 _ (by decide) rfl rfl (by omega) (by decide) d_rp_back_19 ?_
    refine V_goto C 24 d_rp_back_20 (by decide) ?_
    exact V_iret C hr d_rp_back_24 (by rw [if_pos (by omega)]; rfl) rfl

set_option maxRecDepth 20000 in
set_option maxHeartbeats 4000000 in
theorem c_rp_saved (l : Launch) (w : zW) (σ : Nat → Nat → Int) (k : Int) (hk : rI k) (nv : Nat) (hv : σ 25 1 = (nv : Int)) (hv3 : nv ≤ 3) : zMl l w LL CC g_rp_saved rm_rp_saved [.ref (w.1 0), .int (zI (k))] σ (if 0 ≤ k ∧ k < nv then σ 31 k.toNat else -1) (σ) := by
  refine zMl.of g_rp_saved (by decide +kernel) (Nat.le_of_ble_eq_true rfl) rfl ?_
  intro p e u m args below meth c C hr
  have C : zC p u m args meth c prog_1_method_16_code 2 "RoundPlans" w LL CC := C
  have hr : meth.sig.returnType = (some .long) := hr
  obtain ⟨hk1, hk2⟩ := id hk
  show V p l e rm_rp_saved u m args below meth c 2 w LL CC 0 0 (MQ below (zQl w LL CC (if 0 ≤ k ∧ k < nv then σ 31 k.toNat else -1) (σ) u.heap.size) args u 0 0 (zA w LL.1 u.heap.size)) 0 [(0, .ref (w.1 0)), (1, .int (zI (k)))] [] σ
  refine V_aload_n C d_rp_saved_0 0 rfl ?_
  refine V_getr C 0 3 25 (by decide) rfl rfl in_rp (by decide) rfl wd_200 d_rp_saved_1 ?_
  refine V_iload_n C d_rp_saved_4 1 rfl ?_
  refine V_callVi C 25 (by decide) rfl rfl (c_fd_hasVehicle l w σ k hk nv hv hv3) wd_431 wd_432 wd_433 wd_6 wd_434 o_fd_hasVehicle ⟨rfl, rfl, Nat.le_of_ble_eq_true rfl, Nat.le_of_ble_eq_true rfl⟩ rfl rfl (Nat.le_of_ble_eq_true rfl) d_rp_saved_5 ⟨Nat.zero_le _, Nat.zero_le _⟩ ?_
  refine V_ifeqB C 23 d_rp_saved_8 (by decide) (fun h1 => ?_) (fun h1 => ?_)
  · refine V_ldc2 C (-1) d_rp_saved_23 (by rw [show zL (-1) = (-1 : Int64) by decide]; exact wd_447) ?_
    exact V_lret C hr d_rp_saved_26 (by rw [if_neg (by omega)]) rfl
  · obtain ⟨i, rfl⟩ : ∃ i : Nat, k = (i : Int) := ⟨k.toNat, by omega⟩
    refine V_aload_n C d_rp_saved_11 0 rfl ?_
    refine V_getr C 0 3 25 (by decide) rfl rfl in_rp (by decide) rfl wd_200 d_rp_saved_12 ?_
    refine V_getr C 25 8 31 (by decide) rfl rfl in_fd (by decide) rfl wd_177 d_rp_saved_15 ?_
    refine V_iload_n C d_rp_saved_18 1 rfl ?_
    refine V_lald C 31 _ (by decide) rfl rfl (by omega) (by decide) d_rp_saved_19 ?_
    refine V_goto C 26 d_rp_saved_20 (by decide) ?_
    exact V_lret C hr d_rp_saved_26 (by rw [if_pos (by omega)]; rfl) rfl

set_option maxRecDepth 20000 in
set_option maxHeartbeats 4000000 in
theorem c_rp_at (l : Launch) (w : zW) (σ : Nat → Nat → Int) (k j : Int) (hk : rI k) (hj : rI j) (hl : bd σ 29 3 0 7) (nv : Nat) (hv : σ 25 1 = (nv : Int)) (hv3 : nv ≤ 3) : zMi l w LL CC g_rp_at rm_rp_at [.ref (w.1 0), .int (zI (k)), .int (zI (j))] σ (if 0 ≤ k ∧ k < nv ∧ 0 ≤ j ∧ j < σ 29 k.toNat then σ 28 (k.toNat * 7 + j.toNat) else -1) (σ) := by
  refine zMi.of g_rp_at (by decide +kernel) (Nat.le_of_ble_eq_true rfl) rfl ?_
  intro p e u m args below meth c C hr
  have C : zC p u m args meth c prog_1_method_13_code 3 "RoundPlans" w LL CC := C
  have hr : meth.sig.returnType = (some .int) := hr
  obtain ⟨hk1, hk2⟩ := id hk
  obtain ⟨hj1, hj2⟩ := id hj
  show V p l e rm_rp_at u m args below meth c 3 w LL CC 0 0 (MQ below (zQi w LL CC (if 0 ≤ k ∧ k < nv ∧ 0 ≤ j ∧ j < σ 29 k.toNat then σ 28 (k.toNat * 7 + j.toNat) else -1) (σ) u.heap.size) args u 0 0 (zA w LL.1 u.heap.size)) 0 [(0, .ref (w.1 0)), (1, .int (zI (k))), (2, .int (zI (j)))] [] σ
  refine V_aload_n C d_rp_at_0 0 rfl ?_
  refine V_getr C 0 3 25 (by decide) rfl rfl in_rp (by decide) rfl wd_200 d_rp_at_1 ?_
  refine V_iload_n C d_rp_at_4 1 rfl ?_
  refine V_callVi C 25 (by decide) rfl rfl (c_fd_hasVehicle l w σ k hk nv hv hv3) wd_431 wd_432 wd_433 wd_6 wd_434 o_fd_hasVehicle ⟨rfl, rfl, Nat.le_of_ble_eq_true rfl, Nat.le_of_ble_eq_true rfl⟩ rfl rfl (Nat.le_of_ble_eq_true rfl) d_rp_at_5 ⟨Nat.zero_le _, Nat.zero_le _⟩ ?_
  refine V_ifeqB C 28 d_rp_at_8 (by decide) (fun h1 => ?_) (fun h1 => ?_)
  · refine V_iconst C d_rp_at_28 ?_
    exact V_iret C hr d_rp_at_29 (by rw [if_neg (by omega)]) rfl
  · refine V_iload_n C d_rp_at_11 2 rfl ?_
    refine V_iflt C 28 d_rp_at_12 (by decide) ⟨by omega, by omega⟩ (fun hj0 => ?_) (fun hj0 => ?_)
    · refine V_iconst C d_rp_at_28 ?_
      exact V_iret C hr d_rp_at_29 (by rw [if_neg (by omega)]) rfl
    · obtain ⟨i, rfl⟩ : ∃ i : Nat, k = (i : Int) := ⟨k.toNat, by omega⟩
      have hli := hl i (by omega)
      refine V_iload_n C d_rp_at_15 2 rfl ?_
      refine V_aload_n C d_rp_at_16 0 rfl ?_
      refine V_getr C 0 3 25 (by decide) rfl rfl in_rp (by decide) rfl wd_200 d_rp_at_17 ?_
      refine V_getr C 25 6 29 (by decide) rfl rfl in_fd (by decide) rfl wd_172 d_rp_at_20 ?_
      refine V_iload_n C d_rp_at_23 1 rfl ?_
      refine V_iald C 29 _ (by decide) rfl rfl (by omega) (by decide) d_rp_at_24 ?_
      refine V_cmplt C 30 d_rp_at_25 (by decide) ⟨by omega, by omega⟩ ⟨by omega, by omega⟩ (fun h3 => ?_) (fun h3 => ?_)
      · obtain ⟨y, rfl⟩ : ∃ y : Nat, j = (y : Int) := ⟨j.toNat, by omega⟩
        refine V_aload_n C d_rp_at_30 0 rfl ?_
        refine V_getr C 0 3 25 (by decide) rfl rfl in_rp (by decide) rfl wd_200 d_rp_at_31 ?_
        refine V_getr C 25 5 28 (by decide) rfl rfl in_fd (by decide) rfl wd_170 d_rp_at_34 ?_
        refine V_iload_n C d_rp_at_37 1 rfl ?_
        refine V_bipush C d_rp_at_38 (by decide) ?_
        refine V_imul C d_rp_at_40 ?_
        refine V_iload_n C d_rp_at_41 2 rfl ?_
        refine V_iadd C d_rp_at_42 ?_
        refine V_iald C 28 (i * 7 + y) (by decide) rfl (by omega) (by omega) (by decide) d_rp_at_43 ?_
        exact V_iret C hr d_rp_at_44 (by rw [if_pos (by rw [Int.toNat_natCast]; omega)]; rfl) rfl
      · refine V_iconst C d_rp_at_28 ?_
        exact V_iret C hr d_rp_at_29 (by rw [if_neg (by rw [Int.toNat_natCast]; omega)]) rfl
