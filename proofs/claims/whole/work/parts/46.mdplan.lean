/-! THE REFERENCE'S PLANS -/
def vlF (n nv p : Nat) : Nat → Bool
  | 0 => true
  | k + 1 => vlF n nv p k && decide ((n ≤ k → dg p k = 0) ∧ (k < n → 3 ≤ dg p k ∨ dg p k < nv))
def pcF (σ : Nat → Nat → Int) (p : Nat) : Nat → Int
  | 0 => 0
  | k + 1 => pcF σ p k + (if dg p k = 3 then σ 37 k else 0)
def vcF (σ : Nat → Nat → Int) (n p : Nat) (r : Int) : Nat → Option Int
  | 0 => some (pcF σ p n)
  | v + 1 => match vcF σ n p r v with
    | none => none
    | some c => if siF p v n = 0 then some c else if (v : Int) = r ∨ σ 46 (128 * v + siF p v n) < 0 then none else some (c + σ 44 v * (σ 46 (128 * v + siF p v n) - σ 42 v))
def coF (σ : Nat → Nat → Int) (n nv p : Nat) (r : Int) : Int := if vlF n nv p 7 = true then (match vcF σ n p r nv with
  | none => -1
  | some c => c) else -1
theorem vlF_no {n nv p k : Nat} (h : ¬ vlF n nv p k = true) : ∀ j, k ≤ j → ¬ vlF n nv p j = true := by
  intro j hj
  induction j with
  | zero => have : k = 0 := by omega
            subst this; exact h
  | succ j ih =>
    by_cases e : k = j + 1
    · subst e; exact h
    · rw [vlF]
      intro z
      simp only [Bool.and_eq_true] at z
      exact ih (by omega) z.1
theorem vlF_bad {n nv p k : Nat} (h : ¬ ((n ≤ k → dg p k = 0) ∧ (k < n → 3 ≤ dg p k ∨ dg p k < nv))) : ¬ vlF n nv p (k + 1) = true := by
  rw [vlF]
  intro z
  simp only [Bool.and_eq_true, decide_eq_true_eq] at z
  exact h z.2
theorem vlF_ok {n nv p k : Nat} (h0 : vlF n nv p k = true) (h : (n ≤ k → dg p k = 0) ∧ (k < n → 3 ≤ dg p k ∨ dg p k < nv)) : vlF n nv p (k + 1) = true := by
  rw [vlF, h0, Bool.true_and]
  exact decide_eq_true h
theorem vcF_no {σ : Nat → Nat → Int} {n p v : Nat} {r : Int} (h : vcF σ n p r v = none) : ∀ j, v ≤ j → vcF σ n p r j = none := by
  intro j hj
  induction j with
  | zero => have : v = 0 := by omega
            subst this; exact h
  | succ j ih =>
    by_cases e : v = j + 1
    · subst e; exact h
    · unfold vcF; rw [ih (by omega)]
theorem vcF_0 {σ : Nat → Nat → Int} {n p v : Nat} {r c : Int} (h : vcF σ n p r v = some c) (h0 : siF p v n = 0) : vcF σ n p r (v + 1) = some c := by
  rw [vcF, h]; dsimp only; rw [if_pos h0]
theorem vcF_x {σ : Nat → Nat → Int} {n p v : Nat} {r c : Int} (h : vcF σ n p r v = some c) (h0 : ¬ siF p v n = 0) (h1 : (v : Int) = r ∨ σ 46 (128 * v + siF p v n) < 0) : vcF σ n p r (v + 1) = none := by
  rw [vcF, h]; dsimp only; rw [if_neg h0, if_pos h1]
theorem vcF_y {σ : Nat → Nat → Int} {n p v : Nat} {r c : Int} (h : vcF σ n p r v = some c) (h0 : ¬ siF p v n = 0) (h1 : ¬ ((v : Int) = r ∨ σ 46 (128 * v + siF p v n) < 0)) : vcF σ n p r (v + 1) = some (c + σ 44 v * (σ 46 (128 * v + siF p v n) - σ 42 v)) := by
  rw [vcF, h]; dsimp only; rw [if_neg h0, if_neg h1]
theorem pcF_bd {σ : Nat → Nat → Int} {p : Nat} (h : bd σ 37 7 0 1000000000) : ∀ k, k ≤ 7 → 0 ≤ pcF σ p k ∧ pcF σ p k ≤ 1000000000 * k
  | 0, _ => ⟨Int.le_refl 0, Int.le_refl 0⟩
  | k + 1, hk => by
    have ih := pcF_bd (p := p) h k (by omega)
    have hy := h k (by omega)
    unfold pcF
    split <;> omega
theorem ml_bd {x y : Int} (h1 : 0 ≤ x) (h2 : x ≤ 1000) (h3 : -86399 ≤ y) (h4 : y ≤ 150000) : -86399000 ≤ x * y ∧ x * y ≤ 150000000 := by
  have e1 := Int.mul_le_mul_of_nonneg_left h4 h1
  have e2 := Int.mul_le_mul_of_nonneg_left h3 h1
  generalize x * y = z at e1 e2 ⊢
  omega
theorem vcF_bd {σ : Nat → Nat → Int} {n nv p : Nat} {r : Int} (hM : mI σ n nv) (h46 : bd σ 46 384 (-1) 150000) : ∀ v, v ≤ 3 → ∀ c, vcF σ n p r v = some c → -86399000 * v ≤ c ∧ c ≤ 7000000000 + 150000000 * v
  | 0, _, c, e => by
    have := pcF_bd (p := p) hM.2.2.2.2.2.2.2.2.1 n hM.2.1
    have := hM.2.1
    unfold vcF at e
    cases e
    omega
  | v + 1, hv, c, e => by
    cases hq : vcF σ n p r v with
    | none => rw [vcF, hq] at e; cases e
    | some c0 =>
      have ih := vcF_bd hM h46 v (by omega) c0 hq
      by_cases h0 : siF p v n = 0
      · rw [vcF_0 hq h0] at e; cases e; omega
      · by_cases h1 : (v : Int) = r ∨ σ 46 (128 * v + siF p v n) < 0
        · rw [vcF_x hq h0 h1] at e; cases e
        · rw [vcF_y hq h0 h1] at e
          cases e
          have hs := siF_lt (p := p) (v := v) hM.2.1
          have a46 := h46 (128 * v + siF p v n) (by omega)
          obtain ⟨-, -, -, -, -, -, -, -, -, -, -, -, -, h42, -, h44, -⟩ := hM
          have a42 := h42 v (by omega)
          have a44 := h44 v (by omega)
          have := ml_bd a44.1 a44.2 (show -86399 ≤ σ 46 (128 * v + siF p v n) - σ 42 v by omega) (by omega)
          generalize σ 44 v * (σ 46 (128 * v + siF p v n) - σ 42 v) = z at this ⊢
          omega
theorem coF_bd {σ : Nat → Nat → Int} {n nv p : Nat} {r : Int} (hM : mI σ n nv) (h46 : bd σ 46 384 (-1) 150000) : -300000000 ≤ coF σ n nv p r ∧ coF σ n nv p r ≤ 7500000000 := by
  unfold coF
  split
  · split
    · omega
    · rename_i c hc
      have := vcF_bd hM h46 nv hM.2.2.2.1 c hc
      have := hM.2.2.2.1
      omega
  · omega
/-- bestPlan -/
def bpF (σ : Nat → Nat → Int) (n nv : Nat) (r : Int) : Nat → Int × Int
  | 0 => (-1, 0)
  | k + 1 => if 0 ≤ coF σ n nv k r ∧ ((bpF σ n nv r k).1 < 0 ∨ coF σ n nv k r < (bpF σ n nv r k).2) then ((k : Int), coF σ n nv k r) else bpF σ n nv r k
theorem bpF_bd {σ : Nat → Nat → Int} {n nv : Nat} {r : Int} (hM : mI σ n nv) (h46 : bd σ 46 384 (-1) 150000) : ∀ k, -1 ≤ (bpF σ n nv r k).1 ∧ (bpF σ n nv r k).1 < k + 0 ∨ (bpF σ n nv r k).1 = -1
  | 0 => Or.inr rfl
  | k + 1 => by
    have ih := bpF_bd (r := r) hM h46 k
    unfold bpF
    split
    · left; dsimp only; omega
    · omega
theorem bpF_bd2 {σ : Nat → Nat → Int} {n nv : Nat} {r : Int} (hM : mI σ n nv) (h46 : bd σ 46 384 (-1) 150000) : ∀ k, -300000000 ≤ (bpF σ n nv r k).2 ∧ (bpF σ n nv r k).2 ≤ 7500000000
  | 0 => ⟨by show (-300000000 : Int) ≤ 0; decide, by show (0 : Int) ≤ 7500000000; decide⟩
  | k + 1 => by
    have ih := bpF_bd2 (r := r) hM h46 k
    unfold bpF
    split
    · exact coF_bd hM h46
    · exact ih
theorem bpF_t {σ : Nat → Nat → Int} {n nv k : Nat} {r : Int} (h : 0 ≤ coF σ n nv k r ∧ ((bpF σ n nv r k).1 < 0 ∨ coF σ n nv k r < (bpF σ n nv r k).2)) : bpF σ n nv r (k + 1) = ((k : Int), coF σ n nv k r) := by rw [bpF, if_pos h]
theorem bpF_f {σ : Nat → Nat → Int} {n nv k : Nat} {r : Int} (h : ¬ (0 ≤ coF σ n nv k r ∧ ((bpF σ n nv r k).1 < 0 ∨ coF σ n nv k r < (bpF σ n nv r k).2))) : bpF σ n nv r (k + 1) = bpF σ n nv r k := by rw [bpF, if_neg h]
/-- what a cost hangs on -/
theorem pcF_congr {σ σ' : Nat → Nat → Int} {p : Nat} (h : σ' 37 = σ 37) : ∀ k, pcF σ' p k = pcF σ p k
  | 0 => rfl
  | k + 1 => by unfold pcF; rw [pcF_congr h k, h]
theorem vcF_congr {σ σ' : Nat → Nat → Int} {n p : Nat} {r : Int} (h37 : σ' 37 = σ 37) (h42 : σ' 42 = σ 42) (h44 : σ' 44 = σ 44) (h46 : σ' 46 = σ 46) : ∀ v, vcF σ' n p r v = vcF σ n p r v
  | 0 => by unfold vcF; rw [pcF_congr h37]
  | v + 1 => by unfold vcF; rw [vcF_congr h37 h42 h44 h46 v, h42, h44, h46]
theorem coF_congr {σ σ' : Nat → Nat → Int} {n nv p : Nat} {r : Int} (h37 : σ' 37 = σ 37) (h42 : σ' 42 = σ 42) (h44 : σ' 44 = σ 44) (h46 : σ' 46 = σ 46) : coF σ' n nv p r = coF σ n nv p r := by
  unfold coF; rw [vcF_congr h37 h42 h44 h46]
theorem bpF_congr {σ σ' : Nat → Nat → Int} {n nv : Nat} {r : Int} (h37 : σ' 37 = σ 37) (h42 : σ' 42 = σ 42) (h44 : σ' 44 = σ 44) (h46 : σ' 46 = σ 46) : ∀ k, bpF σ' n nv r k = bpF σ n nv r k
  | 0 => rfl
  | k + 1 => by unfold bpF; rw [bpF_congr h37 h42 h44 h46 k, coF_congr h37 h42 h44 h46]
/-- the plan that skips all: there is always one -/
def spN (n : Nat) : Nat := ((List.range 7).map fun k => if k < n then 3 * 2 ^ (2 * (6 - k)) else 0).sum
theorem spN_ok : ∀ n, n < 8 → spN n < 16384 ∧ (∀ k, k < 7 → dg (spN n) k = if k < n then 3 else 0) := by decide +kernel
theorem spN_vl {n nv : Nat} (hn : n ≤ 7) : ∀ k, k ≤ 7 → vlF n nv (spN n) k = true
  | 0, _ => rfl
  | k + 1, hk => by
    have h := (spN_ok n (by omega)).2 k (by omega)
    refine vlF_ok (spN_vl hn k (by omega)) ⟨fun z => ?_, fun z => Or.inl ?_⟩
    · rw [h, if_neg (by omega)]
    · rw [h, if_pos z]; exact Nat.le_refl 3
theorem spN_si {n v : Nat} (hn : n ≤ 7) (hv : v < 3) : ∀ k, k ≤ n → siF (spN n) v k = 0
  | 0, _ => rfl
  | k + 1, hk => by
    have h := (spN_ok n (by omega)).2 k (by omega)
    rw [siF_f (by rw [h, if_pos (by omega)]; omega)]
    exact spN_si hn hv k (by omega)
theorem spN_vc {σ : Nat → Nat → Int} {n : Nat} {r : Int} (hn : n ≤ 7) : ∀ v, v ≤ 3 → vcF σ n (spN n) r v = some (pcF σ (spN n) n)
  | 0, _ => rfl
  | v + 1, hv => vcF_0 (spN_vc hn v (by omega)) (spN_si hn (by omega) n (Nat.le_refl n))
theorem spN_co {σ : Nat → Nat → Int} {n nv : Nat} {r : Int} (hM : mI σ n nv) : 0 ≤ coF σ n nv (spN n) r := by
  have h := pcF_bd (p := spN n) hM.2.2.2.2.2.2.2.2.1 n hM.2.1
  unfold coF
  rw [if_pos (spN_vl hM.2.1 7 (Nat.le_refl 7)), spN_vc hM.2.1 nv hM.2.2.2.1]
  exact h.1
theorem bpF_neg {σ : Nat → Nat → Int} {n nv : Nat} {r : Int} : ∀ k, (bpF σ n nv r k).1 < 0 → ∀ p, p < k → coF σ n nv p r < 0
  | 0, _, p, hp => by omega
  | k + 1, h, p, hp => by
    by_cases hc : 0 ≤ coF σ n nv k r ∧ ((bpF σ n nv r k).1 < 0 ∨ coF σ n nv k r < (bpF σ n nv r k).2)
    · rw [bpF_t hc] at h; dsimp only at h; omega
    · rw [bpF_f hc] at h
      by_cases e : p = k
      · subst e; omega
      · exact bpF_neg k h p (by omega)
theorem bp_nat {σ : Nat → Nat → Int} {n nv : Nat} {r : Int} (hM : mI σ n nv) (h46 : bd σ 46 384 (-1) 150000) : ∃ b : Nat, b < 16384 ∧ (bpF σ n nv r 16384).1 = (b : Int) := by
  have h1 := bpF_bd (r := r) hM h46 16384
  have h2 : ¬ (bpF σ n nv r 16384).1 < 0 := by
    intro z
    have := bpF_neg 16384 z (spN n) (spN_ok n (by have := hM.2.1; omega)).1
    have := spN_co (r := r) hM
    omega
  exact ⟨(bpF σ n nv r 16384).1.toNat, by omega, by omega⟩
def bpN (σ : Nat → Nat → Int) (n nv : Nat) (r : Int) : Nat := (bpF σ n nv r 16384).1.toNat
theorem bpN_ok {σ : Nat → Nat → Int} {n nv : Nat} {r : Int} (hM : mI σ n nv) (h46 : bd σ 46 384 (-1) 150000) : bpN σ n nv r < 16384 ∧ (bpF σ n nv r 16384).1 = (bpN σ n nv r : Int) := by
  obtain ⟨b, h1, h2⟩ := bp_nat (r := r) hM h46
  unfold bpN
  rw [h2]
  exact ⟨h1, rfl⟩
