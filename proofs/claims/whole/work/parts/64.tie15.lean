/-! RUN, THE CLASS'S: the whole result -/
theorem pl_best {σ σ' : Nat → Nat → Int} {n nv : Nat} (h : TT σ n nv) (hs : sameM σ σ') (a : bd σ' 48 7 0 6) (b : bd σ' 46 384 (-1) 150000) (d : bd σ' 47 384 0 2097151) (w : rwI σ') : plI σ n nv (bpN (daF σ' n nv) n nv (-1)) := by
  have hn := h.1.2.1
  have hp := pow_n hn
  have hv3 := h.1.2.2.2.1
  have hM' : mI σ' n nv := h.2.1.congr hs.1 hs.2.1 hs.2.2
  obtain ⟨x1, x2, x3, x4, x5⟩ := daF_all hM' a b d w nv hv3
  obtain ⟨b1, b2, b3⟩ := bpN_min (r := -1) x1 x3
  obtain ⟨c1, c2⟩ := cof_some b2
  refine ⟨fun i hi => (wk_true hn 7 (Nat.le_refl 7) c1).2 i (by omega) hi, fun x hx h0 => ?_⟩
  have h1 := vc_pos nv _ c2 x hx h0
  have hlt : siF (bpN (daF σ' n nv) n nv (-1)) x n < 2 ^ n := siF_lt2
  rw [(da_tab hM' a b d w (show x < 3 by omega) (by omega) nv hv3 hx).1, best_congr hs.2.2] at h1
  exact h1
theorem plI_congr {σ : Nat → Nat → Int} {n nv b b' : Nat} (hb : ∀ k, k < n → dg b' k = dg b k) (h : plI σ n nv b) : plI σ n nv b' := by
  refine ⟨fun i hi => by rw [hb i hi]; exact h.1 i hi, fun x hx => ?_⟩
  rw [siF_congr (p := b') (p' := b) n hb]
  exact h.2 x hx
theorem qx_congr {σ : Nat → Nat → Int} {n b b' x : Nat} (hb : ∀ k, k < n → dg b' k = dg b k) : qx σ n b' x = qx σ n b x := by
  unfold qx; rw [siF_congr (p := b') (p' := b) n hb]
theorem cV_congr {σ τ : Nat → Nat → Int} {n nv b b' v : Nat} (hb : ∀ k, k < n → dg b' k = dg b k) (h : cV σ n nv b' τ v) : cV σ n nv b τ v := by
  obtain ⟨h1, h2, h3⟩ := h
  refine ⟨fun s hs => ?_, fun x hx => ?_, h3⟩
  · have := h1 s hs
    unfold Gx at this ⊢
    rw [hb s hs, qx_congr hb] at this
    exact this
  · have := h2 x hx
    rw [qx_congr hb, siF_congr (p := b') (p' := b) n hb] at this
    exact this
theorem cV_tell {σ τ τ' : Nat → Nat → Int} {n nv b v : Nat} (h : cV σ n nv b τ v) (e : ∀ k, 27 ≤ k → k ≤ 30 → τ' k = τ k) : cV σ n nv b τ' v := by
  unfold cV
  rw [e 27 (by decide) (by decide), e 28 (by decide) (by decide), e 29 (by decide) (by decide), e 30 (by decide) (by decide)]
  exact h
theorem flS_in {σ : Nat → Nat → Int} {h n0 j : Nat} {v : Int} (hj : j < n0) : flS σ h n0 v h j = v := by unfold flS; rw [zUA_self, if_pos hj]
theorem tkL_26 {σ : Nat → Nat → Int} {n nv b : Nat} : ∀ i j, j < i → tkL σ n nv b i 26 j = (dg b j : Int)
  | 0, j, h => by omega
  | i + 1, j, h => by
    unfold tkL
    by_cases e : j = i
    · subst e; rw [zU_self]
    · rw [zU_nj e]; exact tkL_26 i j (by omega)
theorem cV_0 {σ τ : Nat → Nat → Int} {n nv b : Nat} (hn : n ≤ 7) : cV σ n nv b (tkS τ n nv b) 0 := by
  refine ⟨fun s hs => ?_, fun x hx => by omega, fun x _ hx => ⟨?_, ?_⟩⟩
  · rw [if_neg (by omega)]
    unfold tkS
    rw [flS_ne (by decide), flS_ne (by decide), flS_in (by omega)]
  · unfold tkS
    rw [flS_ne (by decide), flS_in hx]
  · unfold tkS
    rw [flS_in hx]
theorem rn_all {σ σ0 : Nat → Nat → Int} {n nv b : Nat} {c0 : Nat → Nat} (h : TT σ n nv) (hp : plI σ n nv b) (hτ : ∀ k, k ≤ 16 → σ0 k = σ k) (h18 : ∀ v, v < nv → siF b v n ≠ 0 → σ0 18 (v * 128 + siF b v n) = (bestM σ n v (siF b v n)).1) (hc : cV σ n nv b σ0 0) :
    ∀ v, v ≤ nv → cV σ n nv b (rnL n nv b c0 σ0 v) v ∧ ∀ x, x < v → rnL n nv b c0 σ0 v 31 x = ((c0 x / 2 ^ 14 : Nat) : Int) - ((b / 2 ^ 14 : Nat) : Int)
  | 0, _ => ⟨hc, fun x hx => by omega⟩
  | v + 1, hv => by
    obtain ⟨i1, i2⟩ := rn_all (c0 := c0) h hp hτ h18 hc v (by omega)
    have ht : ∀ k, 27 ≤ k → k ≤ 30 → zU (chV (rnL n nv b c0 σ0 v) (2 ^ n - 1) v nv) 31 v (((c0 v / 2 ^ 14 : Nat) : Int) - ((b / 2 ^ 14 : Nat) : Int)) k = rnL n nv b c0 σ0 v k := fun k k1 k2 => by rw [zU_ne (by omega), chV_ne (by omega)]
    have hst := cV_step h hp (show v < nv by omega) (τ := zU (chV (rnL n nv b c0 σ0 v) (2 ^ n - 1) v nv) 31 v (((c0 v / 2 ^ 14 : Nat) : Int) - ((b / 2 ^ 14 : Nat) : Int))) (fun k hk => by rw [zU_ne (by omega), chV_ne (by omega), rnL_ne (by omega)]; exact hτ k hk) (fun h0 => by rw [zU_ne (by decide), chV_ne (by decide), rnL_ne (by decide)]; exact h18 v (by omega) h0) (cV_tell i1 ht)
    refine ⟨hst, fun x hx => ?_⟩
    have key : zU (chV (rnL n nv b c0 σ0 v) (2 ^ n - 1) v nv) 31 v (((c0 v / 2 ^ 14 : Nat) : Int) - ((b / 2 ^ 14 : Nat) : Int)) 31 x = ((c0 x / 2 ^ 14 : Nat) : Int) - ((b / 2 ^ 14 : Nat) : Int) := by
      by_cases e : x = v
      · subst e; rw [zU_self]
      · rw [zU_nj e, chV_ne (by decide)]; exact i2 x (by omega)
    unfold rnL
    dsimp only
    split
    · exact key
    · rw [dvF_ne (by decide), ltO_ne (by decide)]; exact key
/-- what is found, in a store: by the class -/
def fdC (σ A τ : Nat → Nat → Int) (n nv : Nat) : Prop :=
  τ 25 0 = n ∧ τ 25 1 = nv ∧ τ 25 2 = coF A n nv (bpN A n nv (-1)) (-1) ∧ (∀ i, i < n → τ 26 i = (dg (bpN A n nv (-1)) i : Int)) ∧ cV σ n nv (bpN A n nv (-1)) τ nv ∧ ∀ v, v < nv → τ 31 v = coF A n nv (bpN A n nv (v : Int)) (v : Int) - coF A n nv (bpN A n nv (-1)) (-1)
theorem cls_run {σ σ' : Nat → Nat → Int} {n nv : Nat} (h : TT σ n nv) (hs : sameM σ σ') (a : bd σ' 48 7 0 6) (b : bd σ' 46 384 (-1) 150000) (d : bd σ' 47 384 0 2097151) (w : rwI σ') : fdC σ (daF σ' n nv) (runF σ n nv (cN (daF σ' n nv) n nv (-1)) (fun v => cN (daF σ' n nv) n nv (v : Int))) n nv := by
  have hn := h.1.2.1
  have hp := pow_n hn
  have hv3 := h.1.2.2.2.1
  have hM' : mI σ' n nv := h.2.1.congr hs.1 hs.2.1 hs.2.2
  obtain ⟨x1, x2, x3, x4, x5⟩ := daF_all hM' a b d w nv hv3
  have hb := cN_ok (r := -1) x1 x3
  have hdg : ∀ k, k < n → dg (cN (daF σ' n nv) n nv (-1)) k = dg (bpN (daF σ' n nv) n nv (-1)) k := fun k hk => hb.2.2.2 k (by omega)
  have hP := pl_best h hs a b d w
  have hP' := plI_congr hdg hP
  have hall := rn_all (σ0 := tkS (chV (runS1 σ n nv) (2 ^ n - 1) (-1) nv) n nv (cN (daF σ' n nv) n nv (-1))) (c0 := fun v => cN (daF σ' n nv) n nv (v : Int)) h hP' (fun k hk => by rw [tkS_ne (by omega), chV_ne (by omega)]; unfold runS1; rw [fpO_ne (by omega) (by omega), bkO_ne (by omega) (by omega)]) (fun v hv h0 => ?_) (cV_0 hn) nv (Nat.le_refl nv)
  · refine ⟨?_, ?_, ?_, fun i hi => ?_, cV_congr hdg hall.1, fun v hv => ?_⟩
    · unfold runF; rw [rnL_ne (by decide), tkS_25]; unfold tkL; rw [zU_nj (by decide), zU_nj (by decide), zU_self]
    · unfold runF; rw [rnL_ne (by decide), tkS_25]; unfold tkL; rw [zU_nj (by decide), zU_self]
    · unfold runF; rw [rnL_ne (by decide), tkS_25]; unfold tkL; rw [zU_self]; exact hb.2.2.1
    · unfold runF; rw [rnL_ne (by decide)]; unfold tkS; rw [flS_ne (by decide), flS_ne (by decide), flS_ne (by decide), tkL_26 n i hi, hdg i hi]
    · unfold runF
      rw [hall.2 v hv, (cN_ok (r := (v : Int)) x1 x3).2.2.1, hb.2.2.1]
  · rw [tkS_ne (by omega), chV_ne (by decide)]
    unfold runS1
    rw [fpO_ne (by decide) (by decide)]
    have hlt : siF (cN (daF σ' n nv) n nv (-1)) v n < 2 ^ n := siF_lt2
    have h1 := hP'.2 v hv h0
    rcases bk_tab h hv (show 0 < siF (cN (daF σ' n nv) n nv (-1)) v n by omega) hlt nv hv3 hv with ⟨z, -⟩ | ⟨-, z, -⟩
    · omega
    · exact z
