/-! ROUNDS: the class's tables, as its loops fill them -/
def wyS (σ : Nat → Nat → Int) (a b : Nat) : Int := σ 16 (a * 8 + b)
/-- mayHave: the load so far, none once it may not -/
def mhF (σ : Nat → Nat → Int) (v S : Nat) : Nat → Option Int
  | 0 => some 0
  | i + 1 => match mhF σ v S i with
    | none => none
    | some ld => if S.testBit i = true then (if (σ 7 i ≠ -1 ∧ σ 7 i ≠ (v : Int)) ∨ ¬ (σ 8 i).toNat &&& S = 0 then none else some (ld + σ 2 i)) else some ld
def mayB (σ : Nat → Nat → Int) (n v S : Nat) : Bool := match mhF σ v S n with
  | none => false
  | some ld => decide (ld ≤ σ 12 v)
theorem mhF_bd {σ : Nat → Nat → Int} {v S : Nat} (h : bd σ 2 7 0 100000) : ∀ i, i ≤ 7 → ∀ ld, mhF σ v S i = some ld → 0 ≤ ld ∧ ld ≤ 100000 * i
  | 0, _, ld, e => by
    unfold mhF at e; cases e; omega
  | i + 1, hi, ld, e => by
    unfold mhF at e
    cases h1 : mhF σ v S i with
    | none => rw [h1] at e; cases e
    | some x =>
      rw [h1] at e
      have hx := mhF_bd h i (by omega) x h1
      have hy := h i (by omega)
      dsimp only at e
      split at e
      · split at e
        · cases e
        · cases e; omega
      · cases e; omega
def thG (σ : Nat → Nat → Int) (v S s : Nat) : Nat → Int := mnF (fun i => (wo S s).testBit i) (fun i => σ 19 (wo S s * 7 + i) + wyS σ i s) (if wo S s = 0 then σ 13 v + wyS σ 7 s else NV)
def rdG (σ : Nat → Nat → Int) (n v S s : Nat) : Int :=
  if ¬ (σ 10 s).toNat &&& wo S s = 0 then NV else if σ 4 s < thG σ v S s n then NV else max (thG σ v S s n) (σ 3 s) + σ 5 s
theorem rdG_eq (σ : Nat → Nat → Int) (n v S s : Nat) : rdG σ n v S s = rdF n (wyS σ) (σ 3) (σ 4) (σ 5) (σ 13 v) (fun i => (σ 10 i).toNat) (fun S i => σ 19 (S * 7 + i)) S s := rfl
theorem mnF_ge {P : Nat → Bool} {f : Nat → Int} {x c : Int} {n : Nat} (hx : c ≤ x) (hf : ∀ i, i < n → P i = true → c ≤ f i) : c ≤ mnF P f x n := by
  rcases mnF_ex P f x n with h | ⟨i, h1, h2, h3⟩
  · rw [h]; exact hx
  · rw [h3]; exact hf i h1 h2
theorem mnF_congr {P : Nat → Bool} {f g : Nat → Int} {x : Int} : ∀ n, (∀ i, i < n → P i = true → f i = g i) → mnF P f x n = mnF P g x n
  | 0, _ => rfl
  | k + 1, h => by
    unfold mnF
    rw [mnF_congr k (fun i hi => h i (by omega))]
    split
    · rename_i h1; rw [h k (by omega) h1]
    · rfl
theorem wo_128 {S s : Nat} (h : S < 128) (hs : s < 7) : wo S s < 128 := by
  have h1 : wo S s ≤ S := by
    cases hb : S.testBit s with
    | true => have := wo_lt hb; omega
    | false =>
      have : wo S s = S := by
        apply Nat.eq_of_testBit_eq
        intro i
        rw [wo_bit]
        by_cases hi : s = i
        · subst hi; simp [hb]
        · simp [hi]
      omega
  omega
theorem thG_bd {σ : Nat → Nat → Int} {n nv v S s : Nat} (hT : tI σ n nv) (hR : bd σ 19 896 0 1073741824) (hv : v < 3) (hS : S < 128) (hs : s < 7) (i : Nat) (hi : i ≤ 7) : 0 ≤ thG σ v S s i ∧ thG σ v S s i ≤ 1073741824 := by
  obtain ⟨-, -, -, -, -, -, -, -, -, -, -, -, -, -, -, h13, -, -, h16⟩ := hT
  have hw := wo_128 hS hs
  have h1 := h13 v hv
  have h2 := h16 (7 * 8 + s) (by omega)
  have hx : 0 ≤ (if wo S s = 0 then σ 13 v + wyS σ 7 s else NV) ∧ (if wo S s = 0 then σ 13 v + wyS σ 7 s else NV) ≤ 1073741824 := by
    unfold wyS NV
    split <;> omega
  refine ⟨mnF_ge hx.1 (fun j hj _ => ?_), Int.le_trans (mnF_x _ _ _ _) hx.2⟩
  have h3 := hR (wo S s * 7 + j) (by omega)
  have h4 := h16 (j * 8 + s) (by omega)
  unfold wyS
  omega
theorem rdG_bd {σ : Nat → Nat → Int} {n nv v S s : Nat} (hT : tI σ n nv) (hR : bd σ 19 896 0 1073741824) (hv : v < 3) (hS : S < 128) (hs : s < 7) : 0 ≤ rdG σ n v S s ∧ rdG σ n v S s ≤ 1073741824 := by
  have h1 := thG_bd hT hR hv hS hs n hT.2.1
  obtain ⟨-, -, -, -, -, h3, h4, h5, -⟩ := hT
  have a3 := h3 s hs
  have a4 := h4 s hs
  have a5 := h5 s hs
  unfold rdG NV
  split
  · omega
  · split <;> omega
theorem rdG_congr {σ σ' : Nat → Nat → Int} {n v S s : Nat} (h : ∀ k, k ≠ 19 → k ≠ 18 → σ' k = σ k) (hr : ∀ i, i < n → σ' 19 (wo S s * 7 + i) = σ 19 (wo S s * 7 + i)) : rdG σ' n v S s = rdG σ n v S s := by
  have e : thG σ' v S s n = thG σ v S s n := by
    unfold thG wyS
    rw [h 13 (by decide) (by decide), h 16 (by decide) (by decide)]
    exact mnF_congr n (fun i hi _ => by rw [hr i hi])
  unfold rdG
  rw [e, h 10 (by decide) (by decide), h 4 (by decide) (by decide), h 3 (by decide) (by decide), h 5 (by decide) (by decide)]
/-- findBack: the ready row of S, and the back -/
def fbS (σ : Nat → Nat → Int) (n v S : Nat) : Nat → Nat → Nat → Int
  | 0 => σ
  | i + 1 => if S.testBit i = true then zU (fbS σ n v S i) 19 (S * 7 + i) (rdG σ n v S i) else fbS σ n v S i
def fbB (σ : Nat → Nat → Int) (n v S : Nat) : Nat → Int := mnF (fun i => S.testBit i) (fun i => rdG σ n v S i + wyS σ i 7) NV
def fbR (σ : Nat → Nat → Int) (n v S : Nat) : Int := if fbB σ n v S n ≤ σ 14 v then fbB σ n v S n else NV
theorem fbS_ne {σ : Nat → Nat → Int} {n v S k : Nat} (hk : k ≠ 19) : ∀ i, fbS σ n v S i k = σ k
  | 0 => rfl
  | i + 1 => by
    unfold fbS
    split
    · rw [zU_ne hk, fbS_ne hk i]
    · exact fbS_ne hk i
theorem fbS_out {σ : Nat → Nat → Int} {n v S j : Nat} : ∀ i, (j < S * 7 ∨ S * 7 + i ≤ j) → fbS σ n v S i 19 j = σ 19 j
  | 0, _ => rfl
  | i + 1, h => by
    unfold fbS
    split
    · rw [zU_nj (by omega), fbS_out i (by omega)]
    · exact fbS_out i (by omega)
theorem fbS_rd {σ : Nat → Nat → Int} {n v S s : Nat} (hn : n ≤ 7) (hb : S.testBit s = true) (i : Nat) : rdG (fbS σ n v S i) n v S s = rdG σ n v S s := by
  have := wo_lt hb
  exact rdG_congr (fun k h1 _ => fbS_ne h1 i) (fun j hj => fbS_out i (by omega))
theorem fbS_bd {σ : Nat → Nat → Int} {n nv v S : Nat} (hT : tI σ n nv) (hR : bd σ 19 896 0 1073741824) (hv : v < 3) (hS : S < 128) : ∀ i, i ≤ 7 → bd (fbS σ n v S i) 19 896 0 1073741824
  | 0, _ => hR
  | i + 1, hi => by
    intro j hj
    have ih := fbS_bd hT hR hv hS i (by omega) j hj
    unfold fbS
    split
    · by_cases h : j = S * 7 + i
      · subst h
        rw [zU_self]
        exact rdG_bd hT hR hv hS (by omega)
      · rw [zU_nj h]; exact ih
    · exact ih
theorem fbB_bd {σ : Nat → Nat → Int} {n nv v S : Nat} (hT : tI σ n nv) (hR : bd σ 19 896 0 1073741824) (hv : v < 3) (hS : S < 128) (i : Nat) (hi : i ≤ 7) : 0 ≤ fbB σ n v S i ∧ fbB σ n v S i ≤ 1073741824 := by
  refine ⟨mnF_ge (by decide) (fun j hj _ => ?_), mnF_x _ _ _ _⟩
  have h1 := rdG_bd (s := j) hT hR hv hS (by omega)
  obtain ⟨-, -, -, -, -, -, -, -, -, -, -, -, -, -, -, -, -, -, h16⟩ := hT
  have h2 := h16 (j * 8 + 7) (by omega)
  unfold wyS
  omega
/-- findBacks: of one vehicle, the sets 1 .. j -/
def bkI (σ : Nat → Nat → Int) (n v : Nat) : Nat → Nat → Nat → Int
  | 0 => σ
  | j + 1 => if mayB (bkI σ n v j) n v (j + 1) = true then zU (fbS (bkI σ n v j) n v (j + 1) n) 18 (v * 128 + (j + 1)) (fbR (bkI σ n v j) n v (j + 1)) else zU (bkI σ n v j) 18 (v * 128 + (j + 1)) NV
def bkO (σ : Nat → Nat → Int) (n : Nat) : Nat → Nat → Nat → Int
  | 0 => σ
  | v + 1 => bkI (bkO σ n v) n v (2 ^ n - 1)
theorem bkI_ne {σ : Nat → Nat → Int} {n v k : Nat} (h1 : k ≠ 19) (h2 : k ≠ 18) : ∀ j, bkI σ n v j k = σ k
  | 0 => rfl
  | j + 1 => by
    unfold bkI
    split
    · rw [zU_ne h2, fbS_ne h1, bkI_ne h1 h2 j]
    · rw [zU_ne h2, bkI_ne h1 h2 j]
theorem bkO_ne {σ : Nat → Nat → Int} {n k : Nat} (h1 : k ≠ 19) (h2 : k ≠ 18) : ∀ v, bkO σ n v k = σ k
  | 0 => rfl
  | v + 1 => by
    unfold bkO
    rw [bkI_ne h1 h2, bkO_ne h1 h2 v]
theorem bkI_bd {σ : Nat → Nat → Int} {n nv v : Nat} (hT : tI σ n nv) (hR : bd σ 19 896 0 1073741824) (hv : v < 3) : ∀ j, j < 128 → bd (bkI σ n v j) 19 896 0 1073741824
  | 0, _ => hR
  | j + 1, hj => by
    have ih := bkI_bd hT hR hv j (by omega)
    have hT' : tI (bkI σ n v j) n nv := hT.congr (fun k hk => bkI_ne (by omega) (by omega) j)
    intro i hi
    unfold bkI
    split
    · rw [zU_ne (by decide)]
      exact fbS_bd hT' ih hv (by omega) n hT.2.1 i hi
    · rw [zU_ne (by decide)]
      exact ih i hi
theorem pow_n {n : Nat} (h : n ≤ 7) : 1 ≤ 2 ^ n ∧ 2 ^ n ≤ 128 := ⟨Nat.one_le_two_pow, Nat.le_trans (Nat.pow_le_pow_right (by omega) h) (by decide)⟩
theorem bkO_bd {σ : Nat → Nat → Int} {n nv : Nat} (hT : tI σ n nv) (hR : bd σ 19 896 0 1073741824) : ∀ v, v ≤ 3 → bd (bkO σ n v) 19 896 0 1073741824
  | 0, _ => hR
  | v + 1, hv => by
    have ih := bkO_bd hT hR v (by omega)
    have hT' : tI (bkO σ n v) n nv := hT.congr (fun k hk => bkO_ne (by omega) (by omega) v)
    have := pow_n hT.2.1
    unfold bkO
    exact bkI_bd hT' ih (by omega) _ (by omega)
theorem mhF_no {σ : Nat → Nat → Int} {v S i : Nat} (h : mhF σ v S i = none) : ∀ j, i ≤ j → mhF σ v S j = none := by
  intro j hj
  induction j with
  | zero => have : i = 0 := by omega
            subst this; exact h
  | succ j ih =>
    by_cases e : i = j + 1
    · subst e; exact h
    · unfold mhF; rw [ih (by omega)]
theorem mayB_no {σ : Nat → Nat → Int} {n v S i : Nat} {ld : Int} (hi : i < n) (hld : mhF σ v S i = some ld) (hb : S.testBit i = true) (hc : (σ 7 i ≠ -1 ∧ σ 7 i ≠ (v : Int)) ∨ ¬ (σ 8 i).toNat &&& S = 0) : ¬ mayB σ n v S = true := by
  have h : mhF σ v S (i + 1) = none := by
    unfold mhF; rw [hld]; dsimp only; rw [if_pos hb, if_pos hc]
  unfold mayB
  rw [mhF_no h n hi]
  simp
theorem mhF_f {σ : Nat → Nat → Int} {v S i : Nat} {ld : Int} (hld : mhF σ v S i = some ld) (hb : ¬ S.testBit i = true) : mhF σ v S (i + 1) = some ld := by
  unfold mhF; rw [hld]; dsimp only; rw [if_neg hb]
theorem mhF_t {σ : Nat → Nat → Int} {v S i : Nat} {ld : Int} (hld : mhF σ v S i = some ld) (hb : S.testBit i = true) (hc : ¬ ((σ 7 i ≠ -1 ∧ σ 7 i ≠ (v : Int)) ∨ ¬ (σ 8 i).toNat &&& S = 0)) : mhF σ v S (i + 1) = some (ld + σ 2 i) := by
  unfold mhF; rw [hld]; dsimp only; rw [if_pos hb, if_neg hc]
theorem thG_t {σ : Nat → Nat → Int} {v S s i : Nat} (hb : (wo S s).testBit i = true) : thG σ v S s (i + 1) = min (thG σ v S s i) (σ 19 (wo S s * 7 + i) + wyS σ i s) := by
  unfold thG; rw [mnF, if_pos hb]
theorem thG_f {σ : Nat → Nat → Int} {v S s i : Nat} (hb : ¬ (wo S s).testBit i = true) : thG σ v S s (i + 1) = thG σ v S s i := by
  unfold thG; rw [mnF, if_neg hb]
theorem fbB_t {σ : Nat → Nat → Int} {n v S i : Nat} (hb : S.testBit i = true) : fbB σ n v S (i + 1) = min (fbB σ n v S i) (rdG σ n v S i + wyS σ i 7) := by
  unfold fbB; rw [mnF, if_pos hb]
theorem fbB_f {σ : Nat → Nat → Int} {n v S i : Nat} (hb : ¬ S.testBit i = true) : fbB σ n v S (i + 1) = fbB σ n v S i := by
  unfold fbB; rw [mnF, if_neg hb]
theorem fbS_t {σ : Nat → Nat → Int} {n v S i : Nat} (hb : S.testBit i = true) : fbS σ n v S (i + 1) = zU (fbS σ n v S i) 19 (S * 7 + i) (rdG σ n v S i) := by
  rw [fbS, if_pos hb]
theorem fbS_f {σ : Nat → Nat → Int} {n v S i : Nat} (hb : ¬ S.testBit i = true) : fbS σ n v S (i + 1) = fbS σ n v S i := by
  rw [fbS, if_neg hb]
