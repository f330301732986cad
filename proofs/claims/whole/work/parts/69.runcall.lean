/-! RUN, BOTH SIDES -/
theorem runF_ne {σ : Nat → Nat → Int} {n nv b k : Nat} {c : Nat → Nat} (h : k ≤ 17 ∨ k = 21 ∨ 31 < k) : runF σ n nv b c k = σ k := by
  unfold runF runS1
  rw [rnL_ne (by omega), tkS_ne (by omega), chV_ne (by omega), fpO_ne (by omega) (by omega), bkO_ne (by omega) (by omega)]
theorem mdF_ne {σ : Nat → Nat → Int} {n nv k : Nat} (h : k < 46) (h32 : k ≠ 32) : mdF σ n nv k = σ k := by
  unfold mdF
  rw [bgF_ne (by omega), tlO_ne (by omega) (by omega) (by omega) (by omega) (by omega), vhF_ne (by omega) (by omega), svF_ne (by omega) (by omega), daF_ne (by omega) (by omega) (by omega) (by omega)]
theorem mdF_32 {σ : Nat → Nat → Int} {n nv j : Nat} (h : j < 18) : mdF σ n nv 32 j = σ 32 j := by
  unfold mdF
  rw [bgF_ne (by omega), tlO_ne (by omega) (by omega) (by omega) (by omega) (by omega), vhF_ne (by omega) (by omega), svF_32]
  unfold rB
  rw [zU_nj (by omega), zU_nj (by omega), zU_nj (by omega), zU_nj (by omega), daF_ne (by omega) (by omega) (by omega) (by omega)]
theorem run_RB1 {σ : Nat → Nat → Int} {n nv b : Nat} {c : Nat → Nat} (hT : tI σ n nv) (h : RB σ) : RB (runF σ n nv b c) := by
  obtain ⟨h18, hR, hL, h22, h23, h0, h46, h47, h48, hw⟩ := h
  have hp := pow_n hT.2.1
  have hv3 := hT.2.2.2.1
  have hT1 : tI (bkO σ n nv) n nv := hT.congr (fun k hk => bkO_ne (by omega) (by omega) nv)
  have k18 := bkO_18 hT hR h18 nv hv3
  have k22 : bd (runS1 σ n nv) 22 384 (-1125899906842624) 1152921504606846976 := fpO_22 hT1 k18 (by intro i hi; rw [bkO_ne (by decide) (by decide)]; exact h22 i hi) _ (by omega)
  have k23 : bd (runS1 σ n nv) 23 128 0 1125899906842624 := fpO_23 hT1 (by intro i hi; rw [bkO_ne (by decide) (by decide)]; exact h23 i hi) _
  have hτ : ∀ k, k ≤ 16 → tkS (chV (runS1 σ n nv) (2 ^ n - 1) (-1) nv) n nv b k = σ k := fun k hk => by
    rw [tkS_ne (by omega), chV_ne (by omega)]; unfold runS1; rw [fpO_ne (by omega) (by omega), bkO_ne (by omega) (by omega)]
  refine ⟨?_, ?_, ?_, ?_, ?_, ?_, ?_, ?_, ?_, ?_⟩
  · intro i hi; unfold runF; rw [rnL_ne (by decide), tkS_ne (by decide), chV_ne (by decide)]; unfold runS1; rw [fpO_ne (by decide) (by decide)]; exact k18 i hi
  · intro i hi; unfold runF; rw [rnL_ne (by decide), tkS_ne (by decide), chV_ne (by decide)]; unfold runS1; rw [fpO_ne (by decide) (by decide)]; exact bkO_bd hT hR nv hv3 i hi
  · unfold runF
    refine rnL_20 (nv := nv) (hT.congr hτ) (fun i hi => ?_) nv
    rw [tkS_ne (by decide), chV_ne (by decide)]; unfold runS1; rw [fpO_ne (by decide) (by decide), bkO_ne (by decide) (by decide)]; exact hL i hi
  · intro i hi; unfold runF; rw [rnL_ne (by decide), tkS_ne (by decide), chV_ne (by decide)]; exact k22 i hi
  · intro i hi; unfold runF; rw [rnL_ne (by decide), tkS_ne (by decide), chV_ne (by decide)]; exact k23 i hi
  · unfold runF; rw [rnL_ne (by decide), tkS_ne (by decide), chV_ne (by decide)]; unfold runS1; rw [(fp_23 (S := 0) (2 ^ n - 1)).2 rfl, bkO_ne (by decide) (by decide)]; exact h0
  · intro i hi; rw [runF_ne (by omega)]; exact h46 i hi
  · intro i hi; rw [runF_ne (by omega)]; exact h47 i hi
  · intro i hi; rw [runF_ne (by omega)]; exact h48 i hi
  · intro i hi k; rw [runF_ne (by omega)]; exact hw i hi k
theorem run_RB2 {σ : Nat → Nat → Int} {n nv : Nat} (hM : mI σ n nv) (h : RB σ) : RB (mdF σ n nv) := by
  obtain ⟨h18, hR, hL, h22, h23, h0, h46, h47, h48, hw⟩ := h
  have hn := hM.2.1
  have hv3 := hM.2.2.2.1
  obtain ⟨x1, x2, x3, x4, x5⟩ := daF_all hM h48 h46 h47 hw nv hv3
  have e46 : ∀ k, k = 46 ∨ k = 47 → mdF σ n nv k = daF σ n nv k := fun k hk => by
    unfold mdF
    rw [bgF_ne (by omega), tlO_ne (by omega) (by omega) (by omega) (by omega) (by omega), vhF_ne (by omega) (by omega), svF_ne (by omega) (by omega)]
  refine ⟨?_, ?_, ?_, ?_, ?_, ?_, ?_, ?_, ?_, ?_⟩
  · intro i hi; rw [mdF_ne (by decide) (by decide)]; exact h18 i hi
  · intro i hi; rw [mdF_ne (by decide) (by decide)]; exact hR i hi
  · intro i hi; rw [mdF_ne (by decide) (by decide)]; exact hL i hi
  · intro i hi; rw [mdF_ne (by decide) (by decide)]; exact h22 i hi
  · intro i hi; rw [mdF_ne (by decide) (by decide)]; exact h23 i hi
  · rw [mdF_ne (by decide) (by decide)]; exact h0
  · intro i hi; rw [e46 46 (Or.inl rfl)]; exact x3 i hi
  · intro i hi; rw [e46 47 (Or.inr rfl)]; exact x4 i hi
  · intro i hi
    unfold mdF
    rw [bgF_ne (by decide)]
    refine tlO_48 hn (fun i hi k => ?_) (fun i hi => ?_) nv hv3 i hi
    · rw [vhF_ne (by decide) (by decide), svF_ne (by decide) (by decide)]; exact x5 i hi k
    · rw [vhF_ne (by decide) (by decide), svF_ne (by decide) (by decide)]; exact x2 i hi
  · intro i hi k; rw [e46 47 (Or.inr rfl)]; exact x5 i hi k
theorem tlF_5 {σ : Nat → Nat → Int} {n v S : Nat} (hn : n ≤ 7) (hv : v < 3) (hS : S < 128) (h47 : bd σ 47 384 0 2097151) (h51 : bd σ 51 3 0 2097151) (h52 : bd σ 52 3 0 7) : bd (tlF σ n v S) 51 3 0 2097151 ∧ bd (tlF σ n v S) 52 3 0 7 := by
  have hc := cnt_le (fun i => S.testBit i) n
  have hA : bd (tlA σ n v S) 52 3 0 7 := by unfold tlA tcK; exact bd_zU (bd_zU h52 (by omega)) (by omega)
  have hA1 : bd (tlA σ n v S) 51 3 0 2097151 := by intro i hi; rw [tlA_ne (by decide) (by decide)]; exact h51 i hi
  have h1 := h47 (128 * v + S) (by omega)
  unfold tlF
  split
  · exact ⟨hA1, hA⟩
  · refine ⟨bd_zU (fun i hi => ?_) (by omega), bd_zU (fun i hi => ?_) (by omega)⟩
    · rw [dbK_ne (by decide)]
      unfold tlB
      rw [ttK_ne (by decide)]
      exact bd_zU hA1 (fun _ => h1) i hi
    · rw [dbK_ne (by decide)]
      unfold tlB
      rw [ttK_ne (by decide), zU_ne (by decide)]
      exact hA i hi
theorem tlO_5 {τ : Nat → Nat → Int} {n b : Nat} (hn : n ≤ 7) (h47 : bd τ 47 384 0 2097151) (h51 : bd τ 51 3 0 2097151) (h52 : bd τ 52 3 0 7) : ∀ v, v ≤ 3 → bd (tlO τ n b v) 51 3 0 2097151 ∧ bd (tlO τ n b v) 52 3 0 7
  | 0, _ => ⟨h51, h52⟩
  | v + 1, hv => by
    obtain ⟨i1, i2⟩ := tlO_5 (b := b) hn h47 h51 h52 v (by omega)
    unfold tlO
    refine tlF_5 hn (by omega) (siF_lt hn) (fun i hi => ?_) i1 i2
    rw [tlO_ne (by decide) (by decide) (by decide) (by decide) (by decide)]; exact h47 i hi
theorem cnt_cut {P : Nat → Bool} {n : Nat} : ∀ k, cnt (fun i => decide (i < n) && P i) (n + k) = cnt P n
  | 0 => by
    have : ∀ m, m ≤ n → cnt (fun i => decide (i < n) && P i) m = cnt P m := by
      intro m
      induction m with
      | zero => intro _; rfl
      | succ m ih =>
        intro hm
        rw [cnt_s, cnt_s, ih (by omega)]
        simp only [show m < n by omega, decide_true, Bool.true_and]
    exact this n (Nat.le_refl n)
  | k + 1 => by
    show cnt (fun i => decide (i < n) && P i) (n + k + 1) = _
    rw [cnt_s, cnt_cut k]
    simp only [show ¬ n + k < n by omega, decide_false, Bool.false_and, Bool.false_eq_true, if_false, Nat.add_zero]
theorem cnt_congr {P Q : Nat → Bool} : ∀ n, (∀ i, i < n → P i = Q i) → cnt P n = cnt Q n
  | 0, _ => rfl
  | n + 1, h => by rw [cnt_s, cnt_s, cnt_congr n (fun i hi => h i (by omega)), h n (by omega)]
theorem k_run {σ : Nat → Nat → Int} (h : Rel σ) (l : Launch) (w : zW) : ∃ (z : Int) (σ1 σ2 : Nat → Nat → Int), zMi l w LL CC g_rp_run rm_rp_run [.ref (w.1 0)] σ z σ1 ∧ zMi l w LL CC g_md_run rm_md_run [.ref (w.1 32)] σ1 z σ2 ∧ Rel σ2 := by
  obtain ⟨n, nv, hT, hB, hF⟩ := h
  obtain ⟨h18, hR, hL, h22, h23, h0, h46, h47, h48, hw⟩ := id hB
  have hTT := hT.1
  have hn := hTT.1.2.1
  have hv3 := hTT.1.2.2.2.1
  have hs0 : sameM σ σ := ⟨rfl, rfl, fun _ _ _ => rfl⟩
  obtain ⟨x1, x2, x3, x4, x5⟩ := daF_all hTT.2.1 h48 h46 h47 hw nv hv3
  have hB0 := fun (r : Int) (hr : r = -1 ∨ (0 ≤ r ∧ r < 3)) => run_B hTT h0 hs0 h48 h46 h47 hw hr
  have a1 := c_rp_run l w σ n nv hTT.1 hR h18 hL h22 h23 (cN (daF σ n nv) n nv (-1)) (cN_ok x1 x3).1 ((hB0 (-1) (Or.inl rfl)).trans (cN_ok x1 x3).2.1.symm) (fun v => cN (daF σ n nv) n nv (v : Int)) (fun v hv => ⟨(cN_ok x1 x3).1, (hB0 v (Or.inr (by omega))).trans (cN_ok x1 x3).2.1.symm⟩)
  have hC := cls_run hTT hs0 h48 h46 h47 hw
  generalize hb : cN (daF σ n nv) n nv (-1) = b at a1 hC
  generalize hc : (fun v : Nat => cN (daF σ n nv) n nv (v : Int)) = c0 at a1 hC
  generalize hσ : runF σ n nv b c0 = σ1 at a1 hC
  have e1 : ∀ k, k ≤ 17 ∨ k = 21 ∨ 31 < k → σ1 k = σ k := fun k hk => by rw [← hσ]; exact runF_ne hk
  have hs1 : sameM σ σ1 := ⟨by rw [e1 32 (by omega)], by rw [e1 32 (by omega)], fun k k1 k2 => e1 k (by omega)⟩
  have hB1 : RB σ1 := by rw [← hσ]; exact run_RB1 hTT.1 hB
  have hTT1 : TT σ1 n nv := hTT.congr (fun k hk => e1 k (by omega)) hs1.1 hs1.2.1 hs1.2.2
  obtain ⟨g18, gR, gL, g22, g23, g0, g46, g47, g48, gw⟩ := id hB1
  obtain ⟨y1, y2, y3, y4, y5⟩ := daF_all hTT1.2.1 g48 g46 g47 gw nv hv3
  have a2 := c_md_run l w σ1 n nv hTT1.2.1 g48 g46 g47 gw
  have hM := mdl_run hTT hs1 g48 g46 g47 gw
  have hP := pl_best hTT hs1 g48 g46 g47 gw
  have hsame : ∀ r : Int, r = -1 ∨ (0 ≤ r ∧ r < 3) → bpN (daF σ1 n nv) n nv r = bpN (daF σ n nv) n nv r ∧ coF (daF σ1 n nv) n nv (bpN (daF σ1 n nv) n nv r) r = coF (daF σ n nv) n nv (bpN (daF σ n nv) n nv r) r := by
    intro r hr
    have z0 := hB0 r hr
    have z1 := run_B hTT h0 hs1 g48 g46 g47 gw hr
    have w0 := (bpN_min (r := r) x1 x3).1
    have w1 := (bpN_min (r := r) y1 y3).1
    rw [z0] at z1
    generalize coF (daF σ n nv) n nv (bpN (daF σ n nv) n nv r) r = c at z1 ⊢
    generalize coF (daF σ1 n nv) n nv (bpN (daF σ1 n nv) n nv r) r = c' at z1 ⊢
    omega
  have hs_1 := hsame (-1) (Or.inl rfl)
  have hdg : ∀ k, k < n → dg b k = dg (bpN (daF σ1 n nv) n nv (-1)) k := fun k hk => by
    rw [← hb, (cN_ok (r := -1) x1 x3).2.2.2 k (by omega), hs_1.1]
  have hcnt : cnt (fun i => (siF b 3 n).testBit i) 7 = cnt (fun i => decide (dg (bpN (daF σ1 n nv) n nv (-1)) i = 3)) n := by
    have q1 : cnt (fun i => (siF b 3 n).testBit i) 7 = cnt (fun i => decide (i < n) && decide (dg b i = 3)) (n + (7 - n)) := by
      rw [show n + (7 - n) = 7 by omega]
      exact cnt_congr 7 (fun i _ => siF_bit)
    rw [q1, cnt_cut]
    exact cnt_congr n (fun i hi => by rw [hdg i hi])
  rw [← hcnt] at a2
  generalize hσ2 : mdF σ1 n nv = σ2 at a2 hM
  have e2 : ∀ k, k < 46 → k ≠ 32 → σ2 k = σ1 k := fun k k1 k2 => by rw [← hσ2]; exact mdF_ne k1 k2
  have e32 : ∀ j, j < 18 → σ2 32 j = σ1 32 j := fun j hj => by rw [← hσ2]; exact mdF_32 hj
  have hB2 : RB σ2 := by rw [← hσ2]; exact run_RB2 hTT1.2.1 hB1
  have hTT2 : TT σ2 n nv := hTT1.congr (fun k hk => e2 k (by omega) (by omega)) (e32 0 (by decide)) (e32 9 (by decide)) (fun k k1 k2 => e2 k (by omega) (by omega))
  have e3 : ∀ k, k ≤ 17 ∨ (33 ≤ k ∧ k ≤ 45) → σ2 k = σ k := fun k hk => (e2 k (by omega) (by omega)).trans (e1 k (by omega))
  refine ⟨_, _, _, a1, a2, n, nv, ⟨hTT2, ?_, ?_, hT.2.2.2.congr (e3 40 (by omega)) (e3 11 (by omega))⟩, hB2, ?_⟩
  · rw [e3 34 (by omega), e3 3 (by omega), e3 36 (by omega), e3 5 (by omega), e3 37 (by omega), e3 6 (by omega)]; exact hT.2.1
  · rw [e3 4 (by omega), e3 7 (by omega)]; exact hT.2.2.1
  · obtain ⟨c1, c2, c3, c4, c5, c6⟩ := hC
    obtain ⟨d1, d2, d3, d4, d5, d6, d7⟩ := hM
    obtain ⟨-, -, -, -, -, -, -, -, -, -, -, -, f11, f12, f13⟩ := hF
    rw [← hs_1.1] at c4 c5
    rw [← hs_1.2] at c3
    have hq7 : ∀ x, x < nv → (qx σ n (bpN (daF σ1 n nv) n nv (-1)) x).length ≤ 7 := fun x hx => (qx_ok hTT hP hx).2.1
    have h5 : bd σ2 51 3 0 2097151 ∧ bd σ2 52 3 0 7 := by
      rw [← hσ2]
      unfold mdF
      have := tlO_5 (τ := vhF (svF (daF σ1 n nv) n nv (bpN (daF σ1 n nv) n nv (-1)) nv) (bpN (daF σ1 n nv) n nv (-1)) n) (b := bpN (daF σ1 n nv) n nv (-1)) hn (fun i hi => by rw [vhF_ne (by decide) (by decide), svF_ne (by decide) (by decide)]; exact y4 i hi) (fun i hi => by rw [vhF_ne (by decide) (by decide), svF_ne (by decide) (by decide), daF_ne (by decide) (by decide) (by decide) (by decide), e1 51 (by omega)]; exact f12 i hi) (fun i hi => by rw [vhF_ne (by decide) (by decide), svF_ne (by decide) (by decide), daF_ne (by decide) (by decide) (by decide) (by decide), e1 52 (by omega)]; exact f13 i hi) nv hv3
      exact ⟨fun i hi => by rw [bgF_ne (by decide)]; exact this.1 i hi, fun i hi => by rw [bgF_ne (by decide)]; exact this.2 i hi⟩
    refine ⟨n, nv, hn, hv3, by rw [e2 25 (by decide) (by decide)]; exact c1, by rw [e2 25 (by decide) (by decide)]; exact c2, d2, d3, Or.inr d1, ?_, fun i hi => ⟨?_, ?_⟩, fun x hx => ?_, ?_, h5.1, h5.2⟩
    · rw [e2 25 (by decide) (by decide), d1, if_neg (by decide), d4]; exact c3
    · rw [e2 26 (by decide) (by decide), c4 i hi, d5 i hi]
    · rw [e2 27 (by decide) (by decide), c5.1 i hi, d6.1 i hi]
    · obtain ⟨u1, u2, u3⟩ := c5.2.1 x hx
      obtain ⟨v1, v2, v3⟩ := d6.2 x hx
      rw [e2 29 (by decide) (by decide), e2 30 (by decide) (by decide), e2 31 (by decide) (by decide), e2 28 (by decide) (by decide)]
      refine ⟨u1.trans v1.symm, u3.trans v3.symm, ?_, fun k hk => ?_⟩
      · rw [c6 x hx, d7 x hx, (hsame x (Or.inr (by omega))).2, hs_1.2]
      · rw [u1] at hk
        have hk' : k < (qx σ n (bpN (daF σ1 n nv) n nv (-1)) x).length := by omega
        rw [u2 k hk', v2 k hk']
    · intro x hx
      rw [e2 29 (by decide) (by decide)]
      by_cases e : x < nv
      · have := hq7 x e
        rw [(c5.2.1 x e).1]
        omega
      · rw [(c5.2.2 x (by omega) hx).1]; omega
