/-! ROUNDS: the latest seconds, and the drive -/
def lvG (σ : Nat → Nat → Int) (P s : Nat) (B : Int) : Nat → Int := mxF (fun i => (wo P s).testBit i) (fun i => σ 20 (wo P s * 7 + i) - wyS σ s i) (if wo P s = 0 then B - wyS σ s 7 else -1)
def ltG (σ : Nat → Nat → Int) (n P s : Nat) (B : Int) : Int :=
  if ¬ (σ 9 s).toNat &&& wo P s = 0 then -1 else if lvG σ P s B n - σ 5 s < σ 3 s then -1 else min (lvG σ P s B n - σ 5 s) (σ 4 s)
theorem ltG_eq (σ : Nat → Nat → Int) (n P s : Nat) (B : Int) : ltG σ n P s B = ltF n (wyS σ) (σ 3) (σ 4) (σ 5) (fun i => (σ 9 i).toNat) B (fun P i => σ 20 (P * 7 + i)) P s := rfl
theorem lvG_t {σ : Nat → Nat → Int} {P s i : Nat} {B : Int} (hb : (wo P s).testBit i = true) : lvG σ P s B (i + 1) = max (lvG σ P s B i) (σ 20 (wo P s * 7 + i) - wyS σ s i) := by
  unfold lvG; rw [mxF, if_pos hb]
theorem lvG_f {σ : Nat → Nat → Int} {P s i : Nat} {B : Int} (hb : ¬ (wo P s).testBit i = true) : lvG σ P s B (i + 1) = lvG σ P s B i := by
  unfold lvG; rw [mxF, if_neg hb]
theorem mxF_congr {P : Nat → Bool} {f g : Nat → Int} {x : Int} : ∀ n, (∀ i, i < n → P i = true → f i = g i) → mxF P f x n = mxF P g x n
  | 0, _ => rfl
  | k + 1, h => by
    unfold mxF
    rw [mxF_congr k (fun i hi => h i (by omega))]
    split
    · rename_i h1; rw [h k (by omega) h1]
    · rfl
theorem lvG_bd {σ : Nat → Nat → Int} {n nv P s : Nat} {B : Int} (hT : tI σ n nv) (hL : bd σ 20 896 (-1) 86399) (hB : 0 ≤ B ∧ B ≤ 1073741824) (hP : P < 128) (hs : s < 7) (i : Nat) (hi : i ≤ 7) : -50000 ≤ lvG σ P s B i ∧ lvG σ P s B i ≤ 1073741824 := by
  obtain ⟨-, -, -, -, -, -, -, -, -, -, -, -, -, -, -, -, -, -, h16⟩ := hT
  have hw := wo_128 hP hs
  have h2 := h16 (s * 8 + 7) (by omega)
  have hx : -50000 ≤ (if wo P s = 0 then B - wyS σ s 7 else -1) ∧ (if wo P s = 0 then B - wyS σ s 7 else -1) ≤ 1073741824 := by
    unfold wyS
    split <;> omega
  refine ⟨Int.le_trans hx.1 (mxF_x _ _ _ _), ?_⟩
  unfold lvG
  rcases mxF_ex (fun i => (wo P s).testBit i) (fun i => σ 20 (wo P s * 7 + i) - wyS σ s i) (if wo P s = 0 then B - wyS σ s 7 else -1) i with h | ⟨j, hj, -, h⟩
  · rw [h]; exact hx.2
  · rw [h]
    have h3 := hL (wo P s * 7 + j) (by omega)
    have h4 := h16 (s * 8 + j) (by omega)
    unfold wyS
    omega
theorem ltG_bd {σ : Nat → Nat → Int} {n nv P s : Nat} {B : Int} (hT : tI σ n nv) (hs : s < 7) : -1 ≤ ltG σ n P s B ∧ ltG σ n P s B ≤ 86399 := by
  obtain ⟨-, -, -, -, -, h3, h4, h5, -⟩ := hT
  have a3 := h3 s hs
  have a4 := h4 s hs
  unfold ltG
  split
  · omega
  · split <;> omega
theorem ltG_congr {σ σ' : Nat → Nat → Int} {n P s : Nat} {B : Int} (h : ∀ k, k ≤ 16 → σ' k = σ k) (hr : ∀ i, i < n → σ' 20 (wo P s * 7 + i) = σ 20 (wo P s * 7 + i)) : ltG σ' n P s B = ltG σ n P s B := by
  have e : lvG σ' P s B n = lvG σ P s B n := by
    unfold lvG wyS
    rw [h 16 (by decide)]
    exact mxF_congr n (fun i hi _ => by rw [hr i hi])
  unfold ltG
  rw [e, h 9 (by decide), h 4 (by decide), h 3 (by decide), h 5 (by decide)]
def anb (P S : Nat) : Nat := P &&& (127 ^^^ S)
theorem zI_anb0 : ((List.range 128).all fun P => (List.range 128).all fun S => zI ((P : Nat) : Int) &&& zI (-1 - ((S : Nat) : Int)) == zI ((anb P S : Nat) : Int)) = true := by decide +kernel
theorem zI_anb (P : Nat) (hP : P < 128) (S : Nat) (hS : S < 128) : zI (P : Int) &&& zI (-1 - (S : Int)) = zI ((anb P S : Nat) : Int) := by
  have h := List.all_eq_true.mp (List.all_eq_true.mp zI_anb0 P (List.mem_range.mpr hP)) S (List.mem_range.mpr hS)
  exact eq_of_beq h
/-- findLatest: the row of the part p -/
def ltS (σ : Nat → Nat → Int) (n S : Nat) (B : Int) (p : Nat) : Nat → Nat → Nat → Int
  | 0 => σ
  | i + 1 => if anb p S = 0 ∧ p.testBit i = true then zU (ltS σ n S B p i) 20 (p * 7 + i) (ltG σ n p i B) else ltS σ n S B p i
def ltO (σ : Nat → Nat → Int) (n S : Nat) (B : Int) : Nat → Nat → Nat → Int
  | 0 => σ
  | j + 1 => ltS (ltO σ n S B j) n S B (j + 1) n
theorem ltS_ne {σ : Nat → Nat → Int} {n S p k : Nat} {B : Int} (hk : k ≠ 20) : ∀ i, ltS σ n S B p i k = σ k
  | 0 => rfl
  | i + 1 => by
    unfold ltS
    split
    · rw [zU_ne hk, ltS_ne hk i]
    · exact ltS_ne hk i
theorem ltS_out {σ : Nat → Nat → Int} {n S p j : Nat} {B : Int} : ∀ i, (j < p * 7 ∨ p * 7 + i ≤ j) → ltS σ n S B p i 20 j = σ 20 j
  | 0, _ => rfl
  | i + 1, h => by
    unfold ltS
    split
    · rw [zU_nj (by omega), ltS_out i (by omega)]
    · exact ltS_out i (by omega)
theorem ltS_lt {σ : Nat → Nat → Int} {n S p s : Nat} {B : Int} (hn : n ≤ 7) (hb : p.testBit s = true) (i : Nat) : ltG (ltS σ n S B p i) n p s B = ltG σ n p s B := by
  have := wo_lt hb
  exact ltG_congr (fun k h1 => ltS_ne (by omega) i) (fun j hj => ltS_out i (by omega))
theorem ltS_bd {σ : Nat → Nat → Int} {n nv S p : Nat} {B : Int} (hT : tI σ n nv) (hL : bd σ 20 896 (-1) 86399) : ∀ i, i ≤ 7 → bd (ltS σ n S B p i) 20 896 (-1) 86399
  | 0, _ => hL
  | i + 1, hi => by
    intro j hj
    have ih := ltS_bd (S := S) (p := p) (B := B) hT hL i (by omega) j hj
    unfold ltS
    split
    · by_cases h : j = p * 7 + i
      · subst h
        rw [zU_self]
        exact ltG_bd hT (by omega)
      · rw [zU_nj h]; exact ih
    · exact ih
theorem ltO_ne {σ : Nat → Nat → Int} {n S k : Nat} {B : Int} (hk : k ≠ 20) : ∀ j, ltO σ n S B j k = σ k
  | 0 => rfl
  | j + 1 => by
    unfold ltO
    rw [ltS_ne hk, ltO_ne hk j]
theorem ltO_bd {σ : Nat → Nat → Int} {n nv S : Nat} {B : Int} (hT : tI σ n nv) (hL : bd σ 20 896 (-1) 86399) : ∀ j, bd (ltO σ n S B j) 20 896 (-1) 86399
  | 0 => hL
  | j + 1 => by
    unfold ltO
    exact ltS_bd (hT.congr (fun k hk => ltO_ne (by omega) j)) (ltO_bd hT hL j) n hT.2.1
theorem ltS_t {σ : Nat → Nat → Int} {n S p i : Nat} {B : Int} (h1 : anb p S = 0) (h2 : p.testBit i = true) : ltS σ n S B p (i + 1) = zU (ltS σ n S B p i) 20 (p * 7 + i) (ltG σ n p i B) := by
  rw [ltS, if_pos ⟨h1, h2⟩]
theorem ltS_f {σ : Nat → Nat → Int} {n S p i : Nat} {B : Int} (h : ¬ (anb p S = 0 ∧ p.testBit i = true)) : ltS σ n S B p (i + 1) = ltS σ n S B p i := by
  rw [ltS, if_neg h]
/-- who is first in time -/
def fiF (σ : Nat → Nat → Int) (p : Nat) (t : Int) (P : Nat) : Nat → Bool := fun s => P.testBit s && decide (t + wyS σ p s ≤ σ 20 (P * 7 + s))
def fiR (σ : Nat → Nat → Int) (n p : Nat) (t : Int) (P : Nat) : Int := match fsF (fiF σ p t P) n with
  | none => -1
  | some s => (s : Int)
theorem fsF_stay {P : Nat → Bool} {i x : Nat} (h : fsF P i = some x) : ∀ j, i ≤ j → fsF P j = some x := by
  intro j hj
  induction j with
  | zero => have : i = 0 := by omega
            subst this; exact h
  | succ j ih =>
    by_cases e : i = j + 1
    · subst e; exact h
    · unfold fsF; rw [ih (by omega)]
theorem fsF_hit {P : Nat → Bool} {i n : Nat} (h : fsF P i = none) (hi : i < n) (hp : P i = true) : fsF P n = some i :=
  fsF_stay (i := i + 1) (by unfold fsF; rw [h]; dsimp only; rw [if_pos hp]) n hi
theorem fsF_miss {P : Nat → Bool} {i : Nat} (h : fsF P i = none) (hp : ¬ P i = true) : fsF P (i + 1) = none := by
  unfold fsF; rw [h]; dsimp only; rw [if_neg hp]
/-- note -/
def ntF (σ : Nat → Nat → Int) (v s : Nat) (b : Int) : Nat → Nat → Int := if 7 ≤ σ 29 v then σ else zU (zU (zU σ 28 (v * 7 + (σ 29 v).toNat) s) 29 v (σ 29 v + 1)) 27 s b
def dvF (n v : Nat) : Nat → Nat → Int → Nat → (Nat → Nat → Int) → Nat → Nat → Int
  | 0, p, t, _, σ => zU σ 30 v (t + wyS σ p 7)
  | f + 1, p, t, P, σ => if P = 0 then zU σ 30 v (t + wyS σ p 7) else match fsF (fiF σ p t P) n with
    | none => σ
    | some s => dvF n v f s (max (t + wyS σ p s) (σ 3 s) + σ 5 s) (wo P s) (ntF σ v s (max (t + wyS σ p s) (σ 3 s)))
theorem ntF_ne {σ : Nat → Nat → Int} {v s k : Nat} {b : Int} (h1 : k ≠ 27) (h2 : k ≠ 28) (h3 : k ≠ 29) : ntF σ v s b k = σ k := by
  unfold ntF
  split
  · rfl
  · rw [zU_ne h1, zU_ne h3, zU_ne h2]
theorem ntF_29 {σ : Nat → Nat → Int} {v s : Nat} {b : Int} (h : bd σ 29 3 0 7) : bd (ntF σ v s b) 29 3 0 7 := by
  intro i hi
  have h1 := h i hi
  unfold ntF
  split
  · exact h1
  · rename_i h2
    rw [zU_ne (by decide)]
    by_cases e : i = v
    · subst e; rw [zU_self]; omega
    · rw [zU_nj e, zU_ne (by decide)]; exact h1
theorem fiR_some {σ : Nat → Nat → Int} {n p P : Nat} {t : Int} (h : fiR σ n p t P ≠ -1) : ∃ s, fsF (fiF σ p t P) n = some s := by
  cases hq : fsF (fiF σ p t P) n with
  | none => exact absurd (by unfold fiR; rw [hq]) h
  | some s => exact ⟨s, rfl⟩
theorem fiR_none {σ : Nat → Nat → Int} {n p P : Nat} {t : Int} (h : fiR σ n p t P = -1) : fsF (fiF σ p t P) n = none := by
  cases hq : fsF (fiF σ p t P) n with
  | none => rfl
  | some s =>
    unfold fiR at h
    rw [hq] at h
    dsimp only at h
    omega
theorem fiR_rI {σ : Nat → Nat → Int} {n p P : Nat} {t : Int} (hn : n ≤ 7) : rI (fiR σ n p t P) := by
  unfold fiR
  split
  · exact ⟨by decide, by decide⟩
  · rename_i x hx
    have := (fsF_some hx).1
    exact ⟨by omega, by omega⟩
theorem fi_ok {σ : Nat → Nat → Int} {n p P s : Nat} {t : Int} (h : fsF (fiF σ p t P) n = some s) : s < n ∧ P.testBit s = true ∧ t + wyS σ p s ≤ σ 20 (P * 7 + s) := by
  obtain ⟨h1, h2, -⟩ := fsF_some h
  unfold fiF at h2
  simp only [Bool.and_eq_true, decide_eq_true_eq] at h2
  exact ⟨h1, h2.1, h2.2⟩
