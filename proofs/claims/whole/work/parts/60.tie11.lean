/-! RUN: the class's least price is the reference's best plan -/
theorem coG_0 : ∀ k, coG 0 k = 0
  | 0 => rfl
  | k + 1 => by rw [coG, if_neg (by simp), coG_0 k]
theorem pnG_0 {σ : Nat → Nat → Int} : ∀ k, pnG σ 0 k = 0
  | 0 => rfl
  | k + 1 => by rw [pnG, if_neg (by simp), pnG_0 k]
theorem run_prI {σ : Nat → Nat → Int} {n nv : Nat} (h : TT σ n nv) (h23 : σ 23 0 = 0) : prI (fun v P => runS1 σ n nv 22 (v * 128 + P)) (runS1 σ n nv 23) σ (fun v P => (bestM σ n v P).1) n nv := by
  have hp := pow_n h.1.2.1
  have hv3 := h.1.2.2.2.1
  refine ⟨fun v P hv h0 hP => ?_, fun S hS => ?_⟩
  · have e : runS1 σ n nv 22 (v * 128 + P) = fpr (bkO σ n nv) n v P := by unfold runS1; exact fp_22 h0 hv _ (by omega) (by omega)
    have e15 : bkO σ n nv 15 v = σ 15 v := by rw [bkO_ne (by decide) (by decide)]
    have e13 : bkO σ n nv 13 v = σ 13 v := by rw [bkO_ne (by decide) (by decide)]
    dsimp only
    rw [e]
    unfold fpr
    rw [e15, e13]
    rcases bk_tab h hv h0 hP nv hv3 hv with ⟨a, b⟩ | ⟨a, b, c, d, -⟩
    · left
      rw [b]
      exact ⟨a, if_pos rfl⟩
    · right
      rw [b]
      unfold NV at c
      exact ⟨d, a, by rw [if_neg (by omega)]⟩
  · unfold runS1
    by_cases h0 : S = 0
    · subst h0
      rw [(fp_23 (S := 0) (2 ^ n - 1)).2 rfl, bkO_ne (by decide) (by decide), h23, coG_0, pnG_0]
      rfl
    · rw [(fp_23 (S := S) (2 ^ n - 1)).1 (by omega) (by omega)]
      unfold fsk
      rw [pnG_congr (bkO_ne (by decide) (by decide) nv)]
/-- the reference's store when its search begins: as the class's was, in what was told -/
def sameM (σ σ' : Nat → Nat → Int) : Prop := σ' 32 0 = σ 32 0 ∧ σ' 32 9 = σ 32 9 ∧ ∀ k, 33 ≤ k → k ≤ 45 → σ' k = σ k
theorem run_B {σ σ' : Nat → Nat → Int} {n nv : Nat} {r : Int} (h : TT σ n nv) (h23 : σ 23 0 = 0) (hs : sameM σ σ') (a : bd σ' 48 7 0 6) (b : bd σ' 46 384 (-1) 150000) (d : bd σ' 47 384 0 2097151) (w : rwI σ') (hr : r = -1 ∨ (0 ≤ r ∧ r < 3)) :
    runB σ n nv r = coF (daF σ' n nv) n nv (bpN (daF σ' n nv) n nv r) r * 2 ^ 14 + (bpN (daF σ' n nv) n nv r : Int) := by
  have hp := pow_n h.1.2.1
  have hv3 := h.1.2.2.2.1
  have hM' : mI σ' n nv := h.2.1.congr hs.1 hs.2.1 hs.2.2
  obtain ⟨x1, x2, x3, x4, x5⟩ := daF_all hM' a b d w nv hv3
  have eb : ∀ v S, bestM σ' n v S = bestM σ n v S := fun v S => best_congr hs.2.2
  unfold runB
  rw [ch_ls (by omega) nv _ (Nat.le_refl _)]
  refine best_plan h.1 x1 x3 hr (run_prI h h23) (fun i hi => ?_) (fun v hv => ?_) (fun v P hv h0 hP => ?_)
  · rw [daF_ne (by decide) (by decide) (by decide) (by decide), hs.2.2 37 (by decide) (by decide)]; exact (h.2.2.1 i hi).2.2.2.2.1
  · rw [daF_ne (by decide) (by decide) (by decide) (by decide), daF_ne (by decide) (by decide) (by decide) (by decide), hs.2.2 42 (by decide) (by decide), hs.2.2 44 (by decide) (by decide)]
    exact ⟨(h.2.2.2.1 v hv).2.1, (h.2.2.2.1 v hv).2.2.2⟩
  · rw [(da_tab hM' a b d w (by omega) (by omega) nv hv3 hv).1, eb]
/-- the numbers of it -/
def cN (τ : Nat → Nat → Int) (n nv : Nat) (r : Int) : Nat := (coF τ n nv (bpN τ n nv r) r).toNat * 2 ^ 14 + bpN τ n nv r
theorem cN_ok {τ : Nat → Nat → Int} {n nv : Nat} {r : Int} (hM : mI τ n nv) (h46 : bd τ 46 384 (-1) 150000) : cN τ n nv r < 2 ^ 63 ∧ ((cN τ n nv r : Nat) : Int) = coF τ n nv (bpN τ n nv r) r * 2 ^ 14 + (bpN τ n nv r : Int) ∧ ((cN τ n nv r / 2 ^ 14 : Nat) : Int) = coF τ n nv (bpN τ n nv r) r ∧ ∀ k, k < 7 → dg (cN τ n nv r) k = dg (bpN τ n nv r) k := by
  obtain ⟨b1, b2, b3⟩ := bpN_min (r := r) hM h46
  have hb := coF_bd (p := bpN τ n nv r) (r := r) hM h46
  unfold cN
  generalize hC : coF τ n nv (bpN τ n nv r) r = C at b2 hb ⊢
  generalize bpN τ n nv r = B at b1 ⊢
  refine ⟨by omega, by omega, by omega, fun k hk => ?_⟩
  unfold dg
  rcases (show k = 0 ∨ k = 1 ∨ k = 2 ∨ k = 3 ∨ k = 4 ∨ k = 5 ∨ k = 6 by omega) with rfl | rfl | rfl | rfl | rfl | rfl | rfl
  · show _ / 4096 % 4 = B / 4096 % 4; omega
  · show _ / 1024 % 4 = B / 1024 % 4; omega
  · show _ / 256 % 4 = B / 256 % 4; omega
  · show _ / 64 % 4 = B / 64 % 4; omega
  · show _ / 16 % 4 = B / 16 % 4; omega
  · show _ / 4 % 4 = B / 4 % 4; omega
  · show _ / 1 % 4 = B / 1 % 4; omega
theorem siF_congr {p p' v : Nat} : ∀ k, (∀ i, i < k → dg p i = dg p' i) → siF p v k = siF p' v k
  | 0, _ => rfl
  | k + 1, h => by
    have ih := siF_congr (v := v) k (fun i hi => h i (by omega))
    by_cases e : dg p k = v
    · rw [siF_t e, siF_t (by rw [← h k (by omega)]; exact e), ih]
    · rw [siF_f e, siF_f (by rw [← h k (by omega)]; exact e), ih]
