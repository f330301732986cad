/-- a loop upward -/
theorem loopUp {n : Nat} {P : Nat → Prop} (h : ∀ i, i ≤ n → (i < n → P (i + 1)) → P i) : ∀ i, i ≤ n → P i := by
  intro i hi
  induction hk : n - i generalizing i with
  | zero => exact h i hi (fun z => absurd z (by omega))
  | succ k ih => exact h i hi (fun z => ih (i + 1) z (by omega))
/-- one bit of a set -/
theorem tb_0 {S s : Nat} : ((S / 2 ^ s &&& 1 : Nat) : Int) = 0 ↔ ¬ S.testBit s = true := by
  rw [Nat.testBit, Nat.shiftRight_eq_div_pow, Nat.and_comm 1]
  constructor
  · intro h
    have : S / 2 ^ s &&& 1 = 0 := by omega
    simp [this]
  · intro h
    have h1 : S / 2 ^ s &&& 1 = 0 := by simpa using h
    rw [h1]; rfl
theorem zI_wo : ∀ S, S < 128 → ∀ s, s < 7 → zI ((S : Nat) : Int) &&& (zI ((2 ^ s : Nat) : Int) ^^^ zI (-1)) = zI ((wo S s : Nat) : Int) := by decide +kernel
theorem zI_not : ∀ x, x < 128 → zI ((x : Nat) : Int) ^^^ zI (-1) = zI (-1 - (x : Int)) := by decide +kernel
theorem zI_wo1 : ∀ S, S < 128 → ∀ s, s < 7 → zI ((S : Nat) : Int) &&& zI (-1 - ((2 ^ s : Nat) : Int)) = zI ((wo S s : Nat) : Int) := by decide +kernel
theorem zB_t {P : Prop} [Decidable P] (h : P) : 1 = zB P := by unfold zB; rw [if_pos h]
theorem zB_f {P : Prop} [Decidable P] (h : ¬ P) : 0 = zB P := by unfold zB; rw [if_neg h]
theorem zI_wi {S s : Nat} : zI (S : Int) ||| zI ((2 ^ s : Nat) : Int) = zI ((wi S s : Nat) : Int) := zI_or S (2 ^ s)
theorem zI_shl1 {s : Nat} (h : s < 31) : zI 1 <<< (zI (s : Int) &&& 31) = zI ((2 ^ s : Nat) : Int) := by
  have h1 : 1 * 2 ^ s < 2 ^ 32 := by
    rw [Nat.one_mul]; exact Nat.pow_lt_pow_right (by omega) (by omega)
  have := zI_shl (n := 1) (k := s) (by omega) h1
  rw [Nat.one_mul] at this
  exact this
