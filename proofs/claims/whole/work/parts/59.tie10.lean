/-! THE BEST PLAN IS ONE -/
theorem bp_min {τ : Nat → Nat → Int} {n nv : Nat} {r : Int} : ∀ k, (0 ≤ (bpF τ n nv r k).1 → ∃ b : Nat, b < k ∧ (bpF τ n nv r k).1 = (b : Int) ∧ (bpF τ n nv r k).2 = coF τ n nv b r ∧ 0 ≤ coF τ n nv b r ∧ ∀ p, p < k → 0 ≤ coF τ n nv p r → coF τ n nv b r < coF τ n nv p r ∨ (coF τ n nv b r = coF τ n nv p r ∧ b ≤ p)) ∧ ((bpF τ n nv r k).1 < 0 → ∀ p, p < k → coF τ n nv p r < 0)
  | 0 => ⟨fun h => absurd h (by show ¬ (0 : Int) ≤ -1; decide), fun _ p hp => by omega⟩
  | k + 1 => by
    obtain ⟨ih1, ih2⟩ := bp_min (τ := τ) (n := n) (nv := nv) (r := r) k
    by_cases hc : 0 ≤ coF τ n nv k r ∧ ((bpF τ n nv r k).1 < 0 ∨ coF τ n nv k r < (bpF τ n nv r k).2)
    · rw [bpF_t hc]
      refine ⟨fun _ => ⟨k, by omega, rfl, rfl, hc.1, fun p hp h0 => ?_⟩, fun h => absurd h (by dsimp only; omega)⟩
      by_cases e : p = k
      · subst e; exact Or.inr ⟨rfl, Nat.le_refl p⟩
      · by_cases hneg : (bpF τ n nv r k).1 < 0
        · have := ih2 hneg p (by omega); omega
        · obtain ⟨b, b1, b2, b3, b4, b5⟩ := ih1 (by omega)
          have := b5 p (by omega) h0
          have h2 : coF τ n nv k r < (bpF τ n nv r k).2 := by omega
          left; omega
    · rw [bpF_f hc]
      refine ⟨fun h => ?_, fun h p hp => ?_⟩
      · obtain ⟨b, b1, b2, b3, b4, b5⟩ := ih1 h
        refine ⟨b, by omega, b2, b3, b4, fun p hp h0 => ?_⟩
        by_cases e : p = k
        · subst e
          have h2 : ¬ coF τ n nv p r < coF τ n nv b r := fun z => hc ⟨h0, Or.inr (by omega)⟩
          by_cases e2 : coF τ n nv b r = coF τ n nv p r
          · exact Or.inr ⟨e2, by omega⟩
          · left; omega
        · exact b5 p (by omega) h0
      · by_cases e : p = k
        · subst e
          have : ¬ 0 ≤ coF τ n nv p r := fun z => hc ⟨z, Or.inl h⟩
          omega
        · exact ih2 h p (by omega)
theorem bpN_min {τ : Nat → Nat → Int} {n nv : Nat} {r : Int} (hM : mI τ n nv) (h46 : bd τ 46 384 (-1) 150000) : bpN τ n nv r < 16384 ∧ 0 ≤ coF τ n nv (bpN τ n nv r) r ∧ ∀ p, p < 16384 → 0 ≤ coF τ n nv p r → coF τ n nv (bpN τ n nv r) r < coF τ n nv p r ∨ (coF τ n nv (bpN τ n nv r) r = coF τ n nv p r ∧ bpN τ n nv r ≤ p) := by
  obtain ⟨h1, h2⟩ := bpN_ok (r := r) hM h46
  obtain ⟨b, b1, b2, b3, b4, b5⟩ := (bp_min (τ := τ) (n := n) (nv := nv) (r := r) 16384).1 (by rw [h2]; omega)
  have e : b = bpN τ n nv r := by omega
  subst e
  exact ⟨b1, b4, b5⟩
theorem cof_some {τ : Nat → Nat → Int} {n nv p : Nat} {r : Int} (h : 0 ≤ coF τ n nv p r) : vlF n nv p 7 = true ∧ vcF τ n p r nv = some (coF τ n nv p r) := by
  unfold coF at h ⊢
  by_cases hv : vlF n nv p 7 = true
  · rw [if_pos hv] at h ⊢
    cases hq : vcF τ n p r nv with
    | none => rw [hq] at h; dsimp only at h; omega
    | some c => exact ⟨hv, rfl⟩
  · rw [if_neg hv] at h; omega
theorem Sj_all {p n nv : Nat} (h : ∀ i, i < n → dg p i = 3 ∨ dg p i < nv) : Sj p n nv = 2 ^ n - 1 := by
  apply Nat.eq_of_testBit_eq
  intro i
  rw [Sj_bit, Nat.testBit_two_pow_sub_one]
  by_cases hi : i < n
  · have : dg p i < nv ∨ dg p i = 3 := by have := h i hi; omega
    simp [hi, this]
  · simp [hi]
/-- a plan's number out of its digits -/
def pnu (f : Nat → Nat) (n : Nat) : Nat := ((List.range 7).map fun k => if k < n then f k * 2 ^ (2 * (6 - k)) else 0).sum
theorem pnu_eq (f : Nat → Nat) (n : Nat) : pnu f n = (if 0 < n then f 0 else 0) * 4096 + (if 1 < n then f 1 else 0) * 1024 + (if 2 < n then f 2 else 0) * 256 + (if 3 < n then f 3 else 0) * 64 + (if 4 < n then f 4 else 0) * 16 + (if 5 < n then f 5 else 0) * 4 + (if 6 < n then f 6 else 0) := by
  have h : ∀ (c : Prop) [Decidable c] (x y : Nat), (if c then x * y else 0) = (if c then x else 0) * y := fun c _ x y => by split <;> simp
  show (if 0 < n then f 0 * 2 ^ (2 * (6 - 0)) else 0) + ((if 1 < n then f 1 * 2 ^ (2 * (6 - 1)) else 0) + ((if 2 < n then f 2 * 2 ^ (2 * (6 - 2)) else 0) + ((if 3 < n then f 3 * 2 ^ (2 * (6 - 3)) else 0) + ((if 4 < n then f 4 * 2 ^ (2 * (6 - 4)) else 0) + ((if 5 < n then f 5 * 2 ^ (2 * (6 - 5)) else 0) + ((if 6 < n then f 6 * 2 ^ (2 * (6 - 6)) else 0) + 0)))))) = _
  simp only [h]
  omega
theorem pnu_ok {f : Nat → Nat} {n : Nat} (hf : ∀ i, f i < 4) : pnu f n < 16384 ∧ ∀ k, k < 7 → dg (pnu f n) k = if k < n then f k else 0 := by
  rw [pnu_eq]
  have b : ∀ k, (if k < n then f k else 0) < 4 := fun k => by have := hf k; split <;> omega
  have b0 := b 0; have b1 := b 1; have b2 := b 2; have b3 := b 3; have b4 := b 4; have b5 := b 5; have b6 := b 6
  generalize e0 : (if 0 < n then f 0 else 0) = x0 at b0 ⊢
  generalize e1 : (if 1 < n then f 1 else 0) = x1 at b1 ⊢
  generalize e2 : (if 2 < n then f 2 else 0) = x2 at b2 ⊢
  generalize e3 : (if 3 < n then f 3 else 0) = x3 at b3 ⊢
  generalize e4 : (if 4 < n then f 4 else 0) = x4 at b4 ⊢
  generalize e5 : (if 5 < n then f 5 else 0) = x5 at b5 ⊢
  generalize e6 : (if 6 < n then f 6 else 0) = x6 at b6 ⊢
  refine ⟨by omega, fun k hk => ?_⟩
  rcases (show k = 0 ∨ k = 1 ∨ k = 2 ∨ k = 3 ∨ k = 4 ∨ k = 5 ∨ k = 6 by omega) with rfl | rfl | rfl | rfl | rfl | rfl | rfl
  · rw [e0]; show _ / 4096 % 4 = _; omega
  · rw [e1]; show _ / 1024 % 4 = _; omega
  · rw [e2]; show _ / 256 % 4 = _; omega
  · rw [e3]; show _ / 64 % 4 = _; omega
  · rw [e4]; show _ / 16 % 4 = _; omega
  · rw [e5]; show _ / 4 % 4 = _; omega
  · rw [e6]; show _ / 1 % 4 = _; omega
theorem vlF_of {n nv p : Nat} (h : ∀ k, k < 7 → (n ≤ k → dg p k = 0) ∧ (k < n → 3 ≤ dg p k ∨ dg p k < nv)) : ∀ k, k ≤ 7 → vlF n nv p k = true
  | 0, _ => rfl
  | k + 1, hk => vlF_ok (vlF_of h k (by omega)) (h k (by omega))
theorem vc_none {τ : Nat → Nat → Int} {n p : Nat} {r : Int} : ∀ v, vcF τ n p r v = none → ∃ j, j < v ∧ siF p j n ≠ 0 ∧ ((j : Int) = r ∨ τ 46 (128 * j + siF p j n) < 0)
  | 0, h => by cases h
  | v + 1, h => by
    cases hq : vcF τ n p r v with
    | none => obtain ⟨j, a, b⟩ := vc_none v hq; exact ⟨j, by omega, b⟩
    | some c =>
      by_cases h0 : siF p v n = 0
      · rw [vcF_0 hq h0] at h; cases h
      · by_cases h1 : (v : Int) = r ∨ τ 46 (128 * v + siF p v n) < 0
        · exact ⟨v, by omega, h0, h1⟩
        · rw [vcF_y hq h0 h1] at h; cases h
/-- the least price is the reference's best plan: its cost, and its number -/
theorem best_plan {pr : Nat → Nat → Int} {sk : Nat → Int} {σ τ : Nat → Nat → Int} {E : Nat → Nat → Int} {n nv : Nat} {r : Int} (hT : tI σ n nv) (hM : mI τ n nv) (h46 : bd τ 46 384 (-1) 150000) (hr : r = -1 ∨ (0 ≤ r ∧ r < 3)) (hI : prI pr sk σ E n nv) (hp : ∀ i, i < n → τ 37 i = σ 6 i) (hc : ∀ v, v < nv → τ 42 v = σ 13 v ∧ τ 44 v = σ 15 v) (hE : ∀ v P, v < nv → 0 < P → P < 2 ^ n → τ 46 (128 * v + P) = E v P) :
    lsV pr sk (vlL r nv) (2 ^ n - 1) = coF τ n nv (bpN τ n nv r) r * 2 ^ 14 + (bpN τ n nv r : Int) := by
  have hn := hT.2.1
  have hv3 := hT.2.2.2.1
  have hpw := pow_n hn
  obtain ⟨b1, b2, b3⟩ := bpN_min (r := r) hM h46
  have val : ∀ p, p < 16384 → 0 ≤ coF τ n nv p r → cst pr sk n (vlL r nv) (dg p) (2 ^ n - 1) = coF τ n nv p r * 2 ^ 14 + (p : Int) := by
    intro p hp16 h0
    obtain ⟨x1, x2⟩ := cof_some h0
    obtain ⟨y1, y2⟩ := wk_true hn 7 (Nat.le_refl 7) x1
    have h := cs_ok hn hv3 hI hp hc hE nv (Nat.le_refl nv) _ x2
    rw [Nat.min_eq_right hn, wk_full p hp16] at y1
    rw [Sj_all (fun i hi => y2 i (by omega) hi), ← y1] at h
    exact h
  have hle := lsV_le (pr := pr) (sk := sk) (n := n) (vlL r nv) (dg (bpN τ n nv r)) (2 ^ n - 1) (by omega)
  rw [val _ b1 b2] at hle
  obtain ⟨f, f1, f2⟩ := lsV_ex (pr := pr) (sk := sk) (n := n) 3 (vlL r nv) (vlL_nd nv) (fun h => by have := ((vlL_mem nv).mp h).1; omega) (2 ^ n - 1) (by omega)
  have hf4 : ∀ i, f i < 4 := fun i => by
    rcases f1 i with h | h
    · have := ((vlL_mem nv).mp h).1; omega
    · omega
  obtain ⟨p1, p2⟩ := pnu_ok (n := n) hf4
  have hdf : ∀ i, i < n → dg (pnu f n) i = f i := fun i hi => by rw [p2 i (by omega), if_pos hi]
  have hcst : cst pr sk n (vlL r nv) f (2 ^ n - 1) = cst pr sk n (vlL r nv) (dg (pnu f n)) (2 ^ n - 1) := cst_congr _ _ (fun i hi _ => (hdf i hi).symm)
  have hvl : vlF n nv (pnu f n) 7 = true := vlF_of (fun k hk => ⟨fun h => by rw [p2 k hk, if_neg (by omega)], fun h => by
    rw [hdf k h]
    rcases f1 k with z | z
    · exact Or.inr ((vlL_mem nv).mp z).1
    · exact Or.inl (by omega)⟩) 7 (Nat.le_refl 7)
  cases hq : vcF τ n (pnu f n) r nv with
  | none =>
    obtain ⟨j, j1, j2, j3⟩ := vc_none nv hq
    have hex : ∃ i, i < n ∧ f i = j := by
      refine Decidable.byContradiction (fun hno => j2 ?_)
      apply Nat.eq_of_testBit_eq
      intro i
      rw [siF_bit, Nat.zero_testBit]
      by_cases hi : i < n
      · have : dg (pnu f n) i ≠ j := fun z => hno ⟨i, hi, by rw [← hdf i hi]; exact z⟩
        simp [this]
      · simp [hi]
    obtain ⟨i, i1, i2⟩ := hex
    have hjl : j ∈ vlL r nv := by
      rcases f1 i with z | z
      · rw [← i2]; exact z
      · omega
    have hjr := ((vlL_mem nv).mp hjl).2
    have hneg : τ 46 (128 * j + siF (pnu f n) j n) < 0 := by
      rcases j3 with z | z
      · exact absurd z hjr
      · exact z
    have hprt : prt n (dg (pnu f n)) j (2 ^ n - 1) = siF (pnu f n) j n := by
      apply Nat.eq_of_testBit_eq
      intro i
      rw [prt_bit, siF_bit, Nat.testBit_two_pow_sub_one]
      by_cases hi : i < n
      · simp [hi]
      · simp [hi]
    have hbig := cst_big (f := dg (pnu f n)) (j := j) hT hI (vlL r nv) (2 ^ n - 1) (fun v hv => ((vlL_mem nv).mp hv).1) (by omega) hjl (by rw [hprt]; exact j2) (by
      rw [hprt]
      rcases hI.1 j (siF (pnu f n) j n) j1 (by omega) siF_lt2 with ⟨-, a⟩ | ⟨-, a, -⟩
      · omega
      · rw [hE j _ j1 (by omega) siF_lt2] at hneg; omega)
    rw [f2, hcst] at hle
    have hco := coF_bd (p := bpN τ n nv r) (r := r) hM h46
    omega
  | some c =>
    have hcoe : coF τ n nv (pnu f n) r = c := by unfold coF; rw [if_pos hvl, hq]
    have hcn : 0 ≤ c := by
      have h := cs_ok hn hv3 hI hp hc hE nv (Nat.le_refl nv) _ hq
      have hnn := cst_nn (f := dg (pnu f n)) hT hI (vlL r nv) (Sj (pnu f n) n nv) (fun v hv => ((vlL_mem nv).mp hv).1) Sj_lt
      obtain ⟨y1, y2⟩ := wk_true hn 7 (Nat.le_refl 7) hvl
      rw [Nat.min_eq_right hn, wk_full _ p1] at y1
      rw [h, ← y1] at hnn
      omega
    have hv := val (pnu f n) p1 (by rw [hcoe]; exact hcn)
    have h3 := b3 (pnu f n) p1 (by rw [hcoe]; exact hcn)
    rw [f2, hcst, hv] at hle ⊢
    omega
