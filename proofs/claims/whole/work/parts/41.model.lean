/-! THE REFERENCE'S STATE -/
def mI (σ : Nat → Nat → Int) (n nv : Nat) : Prop := σ 32 0 = (n : Int) ∧ n ≤ 7 ∧ σ 32 9 = (nv : Int) ∧ nv ≤ 3 ∧ bd σ 33 7 0 100000 ∧ bd σ 34 7 0 86399 ∧ bd σ 35 7 0 86399 ∧ bd σ 36 7 0 10000 ∧ bd σ 37 7 0 1000000000 ∧ bd σ 38 7 (-1) 2 ∧ bd σ 39 49 0 1 ∧ bd σ 40 49 0 1 ∧ bd σ 41 3 0 1000000 ∧ bd σ 42 3 0 86399 ∧ bd σ 43 3 0 86399 ∧ bd σ 44 3 0 1000 ∧ bd σ 45 64 0 50000
theorem mI.congr {σ σ' : Nat → Nat → Int} {n nv : Nat} (h : mI σ n nv) (e0 : σ' 32 0 = σ 32 0) (e9 : σ' 32 9 = σ 32 9) (e : ∀ k, 33 ≤ k → k ≤ 45 → σ' k = σ k) : mI σ' n nv := by
  unfold mI bd at h ⊢
  simp only [e0, e9, e 33 (by omega) (by omega), e 34 (by omega) (by omega), e 35 (by omega) (by omega), e 36 (by omega) (by omega), e 37 (by omega) (by omega), e 38 (by omega) (by omega), e 39 (by omega) (by omega), e 40 (by omega) (by omega), e 41 (by omega) (by omega), e 42 (by omega) (by omega), e 43 (by omega) (by omega), e 44 (by omega) (by omega), e 45 (by omega) (by omega)]
  exact h
/-- leads -/
def ldY (σ : Nat → Nat → Int) (x S : Nat) : Nat → Nat
  | 0 => S
  | y + 1 => if σ 40 (7 * x + y) ≠ 0 then wi (ldY σ x S y) y else ldY σ x S y
def ldX (σ : Nat → Nat → Int) (n S : Nat) : Nat → Nat
  | 0 => S
  | x + 1 => if (ldX σ n S x).testBit x = true then ldY σ x (ldX σ n S x) n else ldX σ n S x
def ldT (σ : Nat → Nat → Int) (n S : Nat) : Nat → Nat
  | 0 => S
  | t + 1 => ldX σ n (ldT σ n S t) n
theorem wi_128 {S s : Nat} (hS : S < 128) (hs : s < 7) : wi S s < 128 := by
  refine Nat.lt_pow_two_of_testBit (n := 7) _ (fun i hi => ?_)
  rw [wi_bit, Nat.testBit_lt_two_pow (Nat.lt_of_lt_of_le hS (show 128 ≤ 2 ^ i from Nat.le_trans (by decide : 128 ≤ 2 ^ 7) (Nat.pow_le_pow_right (by decide) hi)))]
  simp; omega
theorem ldY_128 {σ : Nat → Nat → Int} {x S : Nat} (hS : S < 128) : ∀ y, y ≤ 7 → ldY σ x S y < 128
  | 0, _ => hS
  | y + 1, hy => by
    have ih := ldY_128 (σ := σ) (x := x) hS y (by omega)
    unfold ldY
    split
    · exact wi_128 ih (by omega)
    · exact ih
theorem ldY_mono {σ : Nat → Nat → Int} {x S i : Nat} (h : S.testBit i = true) : ∀ y, (ldY σ x S y).testBit i = true
  | 0 => h
  | y + 1 => by
    have ih := ldY_mono (σ := σ) (x := x) h y
    unfold ldY
    split
    · rw [wi_bit, ih]; rfl
    · exact ih
theorem ldX_128 {σ : Nat → Nat → Int} {n S : Nat} (hn : n ≤ 7) (hS : S < 128) : ∀ x, ldX σ n S x < 128
  | 0 => hS
  | x + 1 => by
    have ih := ldX_128 (σ := σ) hn hS x
    unfold ldX
    split
    · exact ldY_128 ih n hn
    · exact ih
theorem ldT_128 {σ : Nat → Nat → Int} {n S : Nat} (hn : n ≤ 7) (hS : S < 128) : ∀ t, ldT σ n S t < 128
  | 0 => hS
  | t + 1 => ldX_128 hn (ldT_128 hn hS t) n
def ldP (σ : Nat → Nat → Int) (x S y : Nat) : Nat := if S.testBit x = true then ldY σ x S y else S
theorem ldP_128 {σ : Nat → Nat → Int} {x S y : Nat} (hS : S < 128) (hy : y ≤ 7) : ldP σ x S y < 128 := by
  unfold ldP
  split
  · exact ldY_128 hS y hy
  · exact hS
theorem ldP_bit {σ : Nat → Nat → Int} {x S y : Nat} : (ldP σ x S y).testBit x = S.testBit x := by
  unfold ldP
  split
  · rename_i h; rw [ldY_mono h y, h]
  · rfl
theorem ldP_t {σ : Nat → Nat → Int} {x S y : Nat} (h : (ldP σ x S y).testBit x = true) (h1 : σ 40 (7 * x + y) ≠ 0) : ldP σ x S (y + 1) = wi (ldP σ x S y) y := by
  rw [ldP_bit] at h
  unfold ldP
  rw [if_pos h, if_pos h, ldY, if_pos h1]
theorem ldP_f {σ : Nat → Nat → Int} {x S y : Nat} (h : (ldP σ x S y).testBit x = true) (h1 : σ 40 (7 * x + y) = 0) : ldP σ x S (y + 1) = ldP σ x S y := by
  rw [ldP_bit] at h
  unfold ldP
  rw [if_pos h, if_pos h, ldY, if_neg (fun z => z h1)]
theorem ldP_out {σ : Nat → Nat → Int} {x S y n : Nat} (h : ¬ (ldP σ x S y).testBit x = true) : ldP σ x S y = ldP σ x S n := by
  rw [ldP_bit] at h
  unfold ldP
  rw [if_neg h, if_neg h]
theorem ldX_s {σ : Nat → Nat → Int} {n S x : Nat} : ldP σ x (ldX σ n S x) n = ldX σ n S (x + 1) := by
  rw [ldX]; rfl
theorem tb_1 {S s : Nat} : ((S / 2 ^ s &&& 1 : Nat) : Int) = 1 ↔ S.testBit s = true := by
  have h := tb_0 (S := S) (s := s)
  have hle : S / 2 ^ s &&& 1 ≤ 1 := Nat.and_le_right
  constructor
  · intro h1
    exact Decidable.byContradiction (fun z => by have := h.mpr z; omega)
  · intro h1
    have : ¬ ((S / 2 ^ s &&& 1 : Nat) : Int) = 0 := fun z => (h.mp z) h1
    omega
theorem wi_or0 (S : Nat) : S ||| 0 = S := Nat.or_zero S
