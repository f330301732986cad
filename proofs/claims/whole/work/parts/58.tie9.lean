/-! PLANS: what a plan costs is one -/
theorem Sj_bit {p n j i : Nat} : (Sj p n j).testBit i = (decide (i < n) && decide (dg p i < j ∨ dg p i = 3)) := bts_bit _ n i
theorem siF_bit {p v n i : Nat} : (siF p v n).testBit i = (decide (i < n) && decide (dg p i = v)) := bts_bit _ n i
theorem Sj_lt {p n j : Nat} : Sj p n j < 2 ^ n := bts_lt
theorem siF_lt2 {p v n : Nat} : siF p v n < 2 ^ n := bts_lt
theorem prt_si {p n j : Nat} (hj : j < 3) : prt n (dg p) j (Sj p n (j + 1)) = siF p j n := by
  apply Nat.eq_of_testBit_eq
  intro i
  rw [prt_bit, Sj_bit, siF_bit]
  by_cases h1 : i < n
  · by_cases h2 : dg p i = j
    · simp [h1, h2]
    · simp [h2]
  · simp [h1]
theorem Sj_sub {p n j : Nat} (hj : j < 3) : Sj p n (j + 1) - siF p j n = Sj p n j := by
  have hs : siF p j n &&& Sj p n (j + 1) = siF p j n := by rw [← prt_si hj]; exact prt_sub n (dg p) j _
  apply Nat.eq_of_testBit_eq
  intro i
  rw [sub_bit hs, Sj_bit, Sj_bit, siF_bit]
  by_cases h1 : i < n
  · have : (decide (dg p i < j + 1 ∨ dg p i = 3) && !decide (dg p i = j)) = decide (dg p i < j ∨ dg p i = 3) := by
      by_cases h2 : dg p i = j
      · have : ¬ (dg p i < j ∨ dg p i = 3) := by omega
        simp [h2]; omega
      · have e : (dg p i < j + 1 ∨ dg p i = 3) ↔ (dg p i < j ∨ dg p i = 3) := by omega
        simp [h2, e]
    simp only [h1, decide_true, Bool.true_and]
    exact this
  · simp [h1]
/-- the class's prices over a store: E the seconds when a set's round is back, -1 where there is none -/
def prI (pr : Nat → Nat → Int) (sk : Nat → Int) (σ : Nat → Nat → Int) (E : Nat → Nat → Int) (n nv : Nat) : Prop :=
  (∀ v P, v < nv → 0 < P → P < 2 ^ n → (E v P = -1 ∧ pr v P = 1152921504606846976) ∨ (σ 13 v ≤ E v P ∧ 0 ≤ E v P ∧ pr v P = σ 15 v * (E v P - σ 13 v) * 2 ^ 14 + (v : Int) * (coG P n : Nat))) ∧ ∀ S, S < 2 ^ n → sk S = pnG σ S n * 2 ^ 14 + 3 * (coG S n : Nat)
theorem pn_pc {σ τ : Nat → Nat → Int} {n p : Nat} (hp : ∀ i, i < n → τ 37 i = σ 6 i) : ∀ k, k ≤ n → ∀ S, (∀ i, i < k → S.testBit i = decide (dg p i = 3)) → pnG σ S k = pcF τ p k
  | 0, _, _, _ => rfl
  | k + 1, hk, S, hS => by
    rw [pnG, pcF, pn_pc hp k (by omega) S (fun i hi => hS i (by omega)), hS k (by omega), hp k (by omega)]
    simp only [decide_eq_true_eq]
    split <;> omega
/-- a plan that the reference can have costs the same in the class's prices, with its number in the low bits -/
theorem cs_ok {pr : Nat → Nat → Int} {sk : Nat → Int} {σ τ : Nat → Nat → Int} {E : Nat → Nat → Int} {n nv p : Nat} {r : Int} (hn : n ≤ 7) (hv3 : nv ≤ 3) (hI : prI pr sk σ E n nv) (hp : ∀ i, i < n → τ 37 i = σ 6 i) (hc : ∀ v, v < nv → τ 42 v = σ 13 v ∧ τ 44 v = σ 15 v) (hE : ∀ v P, v < nv → 0 < P → P < 2 ^ n → τ 46 (128 * v + P) = E v P) : ∀ j, j ≤ nv → ∀ c, vcF τ n p r j = some c → cst pr sk n (vlL r j) (dg p) (Sj p n j) = c * 2 ^ 14 + ((wk (SjB p j) (dg p) n : Nat) : Int)
  | 0, _, c, h => by
    unfold vcF at h
    cases h
    have h3 : ∀ i, i < n → (Sj p n 0).testBit i = decide (dg p i = 3) := fun i hi => by
      rw [Sj_bit]; simp [hi]
    show sk (Sj p n 0) = _
    rw [hI.2 _ Sj_lt, pn_pc hp n (Nat.le_refl n) _ h3, wk_3 n _ h3]
    omega
  | j + 1, hj, c, h => by
    have hb : ∀ i, i < n → (siF p j n).testBit i = decide (dg p i = j) := fun i hi => by rw [siF_bit]; simp [hi]
    have hw := wk_step (p := p) (show j < 3 by omega) n hn (siF p j n) hb
    cases hq : vcF τ n p r j with
    | none => rw [vcF, hq] at h; cases h
    | some c0 =>
      have ih := cs_ok hn hv3 hI hp hc hE j (by omega) c0 hq
      by_cases h0 : siF p j n = 0
      · rw [vcF_0 hq h0] at h
        cases h
        have hco : coG (siF p j n) n = 0 := by
          rw [h0]
          have : ∀ k, coG 0 k = 0 := by
            intro k
            induction k with
            | zero => rfl
            | succ k ih => rw [coG, if_neg (by simp), ih]
          exact this n
        have hS : Sj p n (j + 1) = Sj p n j := by
          have := Sj_sub (p := p) (n := n) (show j < 3 by omega)
          rw [h0] at this
          omega
        have hw' : wk (SjB p (j + 1)) (dg p) n = wk (SjB p j) (dg p) n := by rw [hw, hco]; omega
        rw [hw', hS, ← ih, show vlL r (j + 1) = if (j : Int) = r then vlL r j else j :: vlL r j from rfl]
        split
        · rfl
        · show (if prt n (dg p) j (Sj p n j) = 0 then 0 else _) + cst pr sk n (vlL r j) (dg p) (Sj p n j - prt n (dg p) j (Sj p n j)) = _
          have hz : prt n (dg p) j (Sj p n j) = 0 := by rw [← hS, prt_si (by omega), h0]
          rw [hz, if_pos rfl, Nat.sub_zero]
          omega
      · by_cases h1 : (j : Int) = r ∨ τ 46 (128 * j + siF p j n) < 0
        · rw [vcF_x hq h0 h1] at h; cases h
        · rw [vcF_y hq h0 h1] at h
          cases h
          have hr : ¬ (j : Int) = r := fun z => h1 (Or.inl z)
          have he := hE j (siF p j n) (by omega) (by omega) siF_lt2
          obtain ⟨c1, c2⟩ := hc j (by omega)
          rcases hI.1 j (siF p j n) (by omega) (by omega) siF_lt2 with ⟨a, -⟩ | ⟨a1, a2, a3⟩
          · exact absurd (Or.inr (by rw [he, a]; decide)) h1
          · rw [show vlL r (j + 1) = if (j : Int) = r then vlL r j else j :: vlL r j from rfl, if_neg hr]
            show (if prt n (dg p) j (Sj p n (j + 1)) = 0 then 0 else pr j (prt n (dg p) j (Sj p n (j + 1)))) + cst pr sk n (vlL r j) (dg p) (Sj p n (j + 1) - prt n (dg p) j (Sj p n (j + 1))) = _
            rw [prt_si (by omega), if_neg h0, Sj_sub (by omega), ih, a3, hw, he, c1, c2]
            generalize σ 15 j * (E j (siF p j n) - σ 13 j) = z
            rw [show ((wk (SjB p j) (dg p) n + j * coG (siF p j n) n : Nat) : Int) = (wk (SjB p j) (dg p) n : Int) + (j : Int) * (coG (siF p j n) n : Int) by rw [Int.natCast_add, Int.natCast_mul]]
            omega
/-- no price is below 0; an impossible round's is above all -/
theorem pn_nn {σ : Nat → Nat → Int} {S : Nat} (h : bd σ 6 7 0 1000000000) {n : Nat} (hn : n ≤ 7) : 0 ≤ pnG σ S n := (pnG_bd (S := S) h n hn).1
theorem pr_nn {pr : Nat → Nat → Int} {sk : Nat → Int} {σ : Nat → Nat → Int} {E : Nat → Nat → Int} {n nv v P : Nat} (hT : tI σ n nv) (hI : prI pr sk σ E n nv) (hv : v < nv) (h0 : 0 < P) (hP : P < 2 ^ n) : 0 ≤ pr v P := by
  have hv3 := hT.2.2.2.1
  have h15 := hT.2.2.2.2.2.2.2.2.2.2.2.2.2.2.2.2.2.1 v (by omega)
  rcases hI.1 v P hv h0 hP with ⟨-, a⟩ | ⟨a1, -, a3⟩
  · omega
  · have h1 := Int.mul_nonneg h15.1 (show 0 ≤ E v P - σ 13 v by omega)
    have h2 := Int.mul_nonneg (Int.natCast_nonneg v) (Int.natCast_nonneg (coG P n))
    omega
theorem cst_nn {pr : Nat → Nat → Int} {sk : Nat → Int} {σ : Nat → Nat → Int} {E : Nat → Nat → Int} {n nv : Nat} (hT : tI σ n nv) (hI : prI pr sk σ E n nv) {f : Nat → Nat} : ∀ (vs : List Nat) (S : Nat), (∀ v ∈ vs, v < nv) → S < 2 ^ n → 0 ≤ cst pr sk n vs f S
  | [], S, _, hS => by
    have h1 := pn_nn (S := S) hT.2.2.2.2.2.2.2.2.1 hT.2.1
    show 0 ≤ sk S
    rw [hI.2 S hS]
    omega
  | v :: vs, S, hv, hS => by
    have hle : prt n f v S ≤ S := by rw [← prt_sub n f v S]; exact Nat.and_le_right
    have ih := cst_nn (f := f) hT hI vs (S - prt n f v S) (fun x hx => hv x (List.mem_cons_of_mem _ hx)) (by omega)
    unfold cst
    split
    · omega
    · rename_i h
      have := pr_nn hT hI (hv v List.mem_cons_self) (show 0 < prt n f v S by omega) (show prt n f v S < 2 ^ n by omega)
      omega
theorem cst_big {pr : Nat → Nat → Int} {sk : Nat → Int} {σ : Nat → Nat → Int} {E : Nat → Nat → Int} {n nv j : Nat} (hT : tI σ n nv) (hI : prI pr sk σ E n nv) {f : Nat → Nat} : ∀ (vs : List Nat) (S : Nat), (∀ v ∈ vs, v < nv) → S < 2 ^ n → j ∈ vs → prt n f j S ≠ 0 → 1152921504606846976 ≤ pr j (prt n f j S) → 1152921504606846976 ≤ cst pr sk n vs f S
  | [], S, _, _, hj, _, _ => by cases hj
  | v :: vs, S, hv, hS, hj, hne, hbig => by
    have hle : prt n f v S ≤ S := by rw [← prt_sub n f v S]; exact Nat.and_le_right
    have hvs : ∀ x ∈ vs, x < nv := fun x hx => hv x (List.mem_cons_of_mem _ hx)
    have hnn := cst_nn (f := f) hT hI vs (S - prt n f v S) hvs (by omega)
    unfold cst
    by_cases e : j = v
    · subst e
      rw [if_neg hne]
      omega
    · have hjv : j ∈ vs := by
        rcases List.mem_cons.mp hj with h | h
        · exact absurd h e
        · exact h
      have hp : prt n f j (S - prt n f v S) = prt n f j S := by
        apply Nat.eq_of_testBit_eq
        intro i
        rw [prt_bit, prt_bit, sub_bit (prt_sub n f v S), prt_bit]
        by_cases h1 : f i = j
        · have : f i ≠ v := by omega
          simp [this]
        · simp [h1]
      have ih := cst_big (f := f) hT hI vs (S - prt n f v S) hvs (by omega) hjv (by rw [hp]; exact hne) (by rw [hp]; exact hbig)
      split
      · omega
      · rename_i h
        have := pr_nn hT hI (hv v List.mem_cons_self) (show 0 < prt n f v S by omega) (show prt n f v S < 2 ^ n by omega)
        omega
