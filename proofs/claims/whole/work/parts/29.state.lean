/-! THE CLASS'S STATE, in words: n stops, nv vehicles; what was told lies in cells 1 to 16 -/
def bd (σ : Nat → Nat → Int) (h k : Nat) (lo hi : Int) : Prop := ∀ i, i < k → lo ≤ σ h i ∧ σ h i ≤ hi
def tI (σ : Nat → Nat → Int) (n nv : Nat) : Prop := σ 1 0 = (n : Int) ∧ n ≤ 7 ∧ σ 1 1 = (nv : Int) ∧ nv ≤ 3 ∧ bd σ 2 7 0 100000 ∧ bd σ 3 7 0 86399 ∧ bd σ 4 7 0 86399 ∧ bd σ 5 7 0 10000 ∧ bd σ 6 7 0 1000000000 ∧ bd σ 7 7 (-1) 2 ∧ bd σ 8 7 0 127 ∧ bd σ 9 7 0 127 ∧ bd σ 10 7 0 127 ∧ bd σ 11 7 0 127 ∧ bd σ 12 3 0 1000000 ∧ bd σ 13 3 0 86399 ∧ bd σ 14 3 0 86399 ∧ bd σ 15 3 0 1000 ∧ bd σ 16 64 0 50000
theorem tI.congr {σ σ' : Nat → Nat → Int} {n nv : Nat} (h : tI σ n nv) (e : ∀ k, k ≤ 16 → σ' k = σ k) : tI σ' n nv := by
  unfold tI bd at h ⊢
  simp only [e 1 (by omega), e 2 (by omega), e 3 (by omega), e 4 (by omega), e 5 (by omega), e 6 (by omega), e 7 (by omega), e 8 (by omega), e 9 (by omega), e 10 (by omega), e 11 (by omega), e 12 (by omega), e 13 (by omega), e 14 (by omega), e 15 (by omega), e 16 (by omega)]
  exact h
/-- before(): who is reached -/
def rcF (σ : Nat → Nat → Int) (a more : Nat) : Nat → Nat → Nat → Int
  | 0 => σ
  | i + 1 => if i = a ∨ (σ 11 i).toNat.testBit a = true then zU (rcF σ a more i) 11 i (((σ 11 i).toNat ||| more : Nat) : Int) else rcF σ a more i
theorem rcF_ne {σ : Nat → Nat → Int} {a more k : Nat} (hk : k ≠ 11) : ∀ i, rcF σ a more i k = σ k
  | 0 => rfl
  | i + 1 => by
    unfold rcF
    split
    · rw [zU_ne hk, rcF_ne hk i]
    · exact rcF_ne hk i
theorem rcF_hi {σ : Nat → Nat → Int} {a more : Nat} : ∀ i j, i ≤ j → rcF σ a more i 11 j = σ 11 j
  | 0, _, _ => rfl
  | i + 1, j, h => by
    unfold rcF
    split
    · rw [zU_nj (by omega), rcF_hi i j (by omega)]
    · exact rcF_hi i j (by omega)
def apF (t : Int) (S s : Nat) : Nat := if t ≠ 0 then wi S s else wo S s
def sApart (σ : Nat → Nat → Int) (a b : Nat) (t : Int) : Nat → Nat → Int := zU (zU σ 8 a (apF t (σ 8 a).toNat b : Nat)) 8 b (apF t (σ 8 b).toNat a : Nat)
def sBef0 (σ : Nat → Nat → Int) (a b : Nat) : Nat → Nat → Int := zU (zU σ 10 a (wi (σ 10 a).toNat b : Nat)) 9 b (wi (σ 9 b).toNat a : Nat)
def sBefore (σ : Nat → Nat → Int) (n a b : Nat) : Nat → Nat → Int := rcF (sBef0 σ a b) a (wi (σ 11 b).toNat b) n
