/-! RUN: the pieces -/
/-- the vehicle of stop s in a price -/
def dg (p s : Nat) : Nat := p / 2 ^ (2 * (6 - s)) % 4
theorem and_3 (x : Nat) : x &&& 3 = x % 4 := Nat.and_two_pow_sub_one_eq_mod x 2
def siF (p v : Nat) : Nat → Nat := bts (fun i => decide (dg p i = v))
theorem siF_t {p v i : Nat} (h : dg p i = v) : siF p v (i + 1) = wi (siF p v i) i := by unfold siF; rw [bts, if_pos (decide_eq_true h)]
theorem siF_f {p v i : Nat} (h : ¬ dg p i = v) : siF p v (i + 1) = siF p v i := by unfold siF; rw [bts, if_neg (by simp [h])]
theorem bts_lt {P : Nat → Bool} {n : Nat} : bts P n < 2 ^ n := Nat.lt_pow_two_of_testBit _ (fun i hi => by rw [bts_bit]; simp; omega)
theorem siF_lt {p v n : Nat} (h : n ≤ 7) : siF p v n < 128 := Nat.lt_of_lt_of_le bts_lt (pow_n h).2
/-- fill -/
def flS (σ : Nat → Nat → Int) (h n0 : Nat) (v : Int) : Nat → Nat → Int := zUA σ h (fun j => if j < n0 then v else σ h j)
theorem flS_0 {σ : Nat → Nat → Int} {h : Nat} {v : Int} : flS σ h 0 v = σ := by
  funext k i
  unfold flS
  by_cases hk : k = h
  · subst hk; rw [zUA_self, if_neg (by omega)]
  · rw [zUA_ne hk]
theorem flS_step {σ : Nat → Nat → Int} {h i : Nat} {v : Int} : zU (flS σ h i v) h i v = flS σ h (i + 1) v := by
  funext k j
  by_cases hk : k = h
  · subst hk
    unfold flS
    rw [zUA_self]
    by_cases hj : j = i
    · subst hj; rw [zU_self, if_pos (by omega)]
    · rw [zU_nj hj, zUA_self]
      by_cases h2 : j < i
      · rw [if_pos h2, if_pos (by omega)]
      · rw [if_neg h2, if_neg (by omega)]
  · rw [zU_ne hk]; unfold flS; rw [zUA_ne hk, zUA_ne hk]
theorem flS_ne {σ : Nat → Nat → Int} {h n0 k : Nat} {v : Int} (hk : k ≠ h) : flS σ h n0 v k = σ k := zUA_ne hk
/-- take -/
def tkL (σ : Nat → Nat → Int) (n nv b : Nat) : Nat → Nat → Nat → Int
  | 0 => zU (zU (zU σ 25 0 n) 25 1 nv) 25 2 (b / 2 ^ 14 : Nat)
  | i + 1 => zU (tkL σ n nv b i) 26 i (dg b i : Nat)
def tkS (σ : Nat → Nat → Int) (n nv b : Nat) : Nat → Nat → Int := flS (flS (flS (tkL σ n nv b n) 27 7 (-1)) 29 3 0) 30 3 (-1)
theorem tkL_ne {σ : Nat → Nat → Int} {n nv b k : Nat} (h1 : k ≠ 25) (h2 : k ≠ 26) : ∀ i, tkL σ n nv b i k = σ k
  | 0 => by unfold tkL; rw [zU_ne h1, zU_ne h1, zU_ne h1]
  | i + 1 => by unfold tkL; rw [zU_ne h2, tkL_ne h1 h2 i]
theorem tkL_25 {σ : Nat → Nat → Int} {n nv b : Nat} : ∀ i, tkL σ n nv b i 25 = tkL σ n nv b 0 25
  | 0 => rfl
  | i + 1 => by
    show zU (tkL σ n nv b i) 26 i _ 25 = _
    rw [zU_ne (by decide)]; exact tkL_25 i
theorem tkS_ne {σ : Nat → Nat → Int} {n nv b k : Nat} (h : k < 25 ∨ k = 28 ∨ 30 < k) : tkS σ n nv b k = σ k := by
  unfold tkS; rw [flS_ne (by omega), flS_ne (by omega), flS_ne (by omega), tkL_ne (by omega) (by omega)]
theorem tkS_25 {σ : Nat → Nat → Int} {n nv b : Nat} : tkS σ n nv b 25 = tkL σ n nv b 0 25 := by
  unfold tkS; rw [flS_ne (by decide), flS_ne (by decide), flS_ne (by decide), tkL_25]
/-- bitCount -/
def bc1 (S : Nat) : Nat := S - (S / 2 ^ 1 &&& 1431655765)
def bc2 (S : Nat) : Nat := (bc1 S &&& 858993459) + (bc1 S / 2 ^ 2 &&& 858993459)
def bc3 (S : Nat) : Nat := (bc2 S + bc2 S / 2 ^ 4) &&& 252645135
def bc4 (S : Nat) : Nat := bc3 S + bc3 S / 2 ^ 8
def bc5 (S : Nat) : Nat := bc4 S + bc4 S / 2 ^ 16
theorem bc_ok : ∀ S, S < 128 → (S / 2 ^ 1 &&& 1431655765) ≤ S ∧ bc1 S < 2 ^ 31 ∧ bc2 S < 2 ^ 31 ∧ bc3 S < 2 ^ 31 ∧ bc4 S < 2 ^ 31 ∧ (bc5 S &&& 63) = cnt (fun i => S.testBit i) 7 := by decide +kernel
/-- the least price when r rests, as the tables stand; it doesn't hang on the rest of the store -/
theorem lwF_congr2 {S : Nat} {pr pr' g g' : Nat → Int} (hp : ∀ x, pr x = pr' x) (h : ∀ x, x < S → g x = g' x) : ∀ (k Q : Nat) (x : Int), Q ≤ S → lwF S pr g k Q x = lwF S pr' g' k Q x := by
  intro k Q x hQ
  have : pr = pr' := funext hp
  subst this
  exact lwF_congr h k Q x hQ
theorem chV_congr {σ σ' : Nat → Nat → Int} {a : Nat} {r : Int} (ha : a < 128) (h22 : σ' 22 = σ 22) (h23 : σ' 23 = σ 23) : ∀ v j, j < 128 → chV σ' a r v 24 j = chV σ a r v 24 j
  | 0, j, hj => by
    unfold chV cp0
    rw [zUA_self, zUA_self, if_pos hj, if_pos hj, h23]
  | v + 1, j, hj => by
    have ih := chV_congr (r := r) ha h22 h23 v
    unfold chV
    split
    · exact ih j hj
    · unfold arS
      rw [zUA_self, zUA_self]
      split
      · rename_i h
        unfold lwG
        rw [show chV σ' a r v 22 = σ' 22 from chV_ne (by decide) v, show chV σ a r v 22 = σ 22 from chV_ne (by decide) v, h22, ih j hj]
        exact lwF_congr (fun x hx => ih x (by omega)) j j _ (Nat.le_refl j)
      · exact ih j hj
/-- the loop of run over the vehicles; b the best price, c v that when v rests -/
def rnL (n nv b : Nat) (c : Nat → Nat) (σ : Nat → Nat → Int) : Nat → Nat → Nat → Int
  | 0 => σ
  | v + 1 =>
    let τ := zU (chV (rnL n nv b c σ v) (2 ^ n - 1) v nv) 31 v (((c v / 2 ^ 14 : Nat) : Int) - ((b / 2 ^ 14 : Nat) : Int))
    if siF b v n = 0 then τ else dvF n v 7 7 (τ 13 v) (siF b v n) (ltO τ n (siF b v n) (τ 18 (v * 128 + siF b v n)) (siF b v n))
theorem dvF_ne {n v k : Nat} (h : k < 27 ∨ 30 < k) : ∀ (f p : Nat) (t : Int) (P : Nat) (σ : Nat → Nat → Int), dvF n v f p t P σ k = σ k
  | 0, p, t, P, σ => by unfold dvF; rw [zU_ne (by omega)]
  | f + 1, p, t, P, σ => by
    by_cases h0 : P = 0
    · rw [dvF, if_pos h0, zU_ne (by omega)]
    · rw [dvF, if_neg h0]
      cases fsF (fiF σ p t P) n with
      | none => rfl
      | some s => exact (dvF_ne h f _ _ _ _).trans (ntF_ne (by omega) (by omega) (by omega))
theorem dvF_29 {n v : Nat} : ∀ (f p : Nat) (t : Int) (P : Nat) (σ : Nat → Nat → Int), bd σ 29 3 0 7 → bd (dvF n v f p t P σ) 29 3 0 7
  | 0, p, t, P, σ, h => by intro i hi; unfold dvF; rw [zU_ne (by decide)]; exact h i hi
  | f + 1, p, t, P, σ, h => by
    by_cases h0 : P = 0
    · rw [dvF, if_pos h0]; intro i hi; rw [zU_ne (by decide)]; exact h i hi
    · rw [dvF, if_neg h0]
      cases fsF (fiF σ p t P) n with
      | none => exact h
      | some s => exact dvF_29 f _ _ _ _ (ntF_29 h)
theorem rnL_ne {n nv b : Nat} {c : Nat → Nat} {σ : Nat → Nat → Int} {k : Nat} (h : k ≤ 19 ∨ (21 ≤ k ∧ k ≤ 23) ∨ k = 25 ∨ k = 26 ∨ 31 < k) : ∀ v, rnL n nv b c σ v k = σ k
  | 0 => rfl
  | v + 1 => by
    have ih := rnL_ne (n := n) (nv := nv) (b := b) (c := c) (σ := σ) h v
    unfold rnL
    dsimp only
    split
    · rw [zU_ne (by omega), chV_ne (by omega), ih]
    · rw [dvF_ne (by omega), ltO_ne (by omega), zU_ne (by omega), chV_ne (by omega), ih]
theorem rnL_20 {n nv b : Nat} {c : Nat → Nat} {σ : Nat → Nat → Int} (hT : tI σ n nv) (hL : bd σ 20 896 (-1) 86399) : ∀ v, bd (rnL n nv b c σ v) 20 896 (-1) 86399
  | 0 => hL
  | v + 1 => by
    have ih := rnL_20 (b := b) (c := c) hT hL v
    unfold rnL
    dsimp only
    split
    · intro i hi; rw [zU_ne (by decide), chV_ne (by decide)]; exact ih i hi
    · intro i hi
      rw [dvF_ne (by omega)]
      refine ltO_bd (nv := nv) (hT.congr (fun k hk => ?_)) ?_ _ i hi
      · rw [zU_ne (by omega), chV_ne (by omega), rnL_ne (by omega)]
      · intro i hi; rw [zU_ne (by decide), chV_ne (by decide)]; exact ih i hi
theorem rnL_29 {n nv b : Nat} {c : Nat → Nat} {σ : Nat → Nat → Int} (h : bd σ 29 3 0 7) : ∀ v, bd (rnL n nv b c σ v) 29 3 0 7
  | 0 => h
  | v + 1 => by
    have ih := rnL_29 (n := n) (nv := nv) (b := b) (c := c) h v
    unfold rnL
    dsimp only
    split
    · intro i hi; rw [zU_ne (by decide), chV_ne (by decide)]; exact ih i hi
    · refine dvF_29 _ _ _ _ _ ?_
      intro i hi; rw [ltO_ne (by decide), zU_ne (by decide), chV_ne (by decide)]; exact ih i hi
def runS1 (σ : Nat → Nat → Int) (n nv : Nat) : Nat → Nat → Int := fpO (bkO σ n nv) n nv (2 ^ n - 1)
def runB (σ : Nat → Nat → Int) (n nv : Nat) (r : Int) : Int := chV (runS1 σ n nv) (2 ^ n - 1) r nv 24 (2 ^ n - 1)
def runF (σ : Nat → Nat → Int) (n nv b : Nat) (c : Nat → Nat) : Nat → Nat → Int := rnL n nv b c (tkS (chV (runS1 σ n nv) (2 ^ n - 1) (-1) nv) n nv b) nv
theorem fbR_bd {σ : Nat → Nat → Int} {n nv v S : Nat} (hT : tI σ n nv) (hR : bd σ 19 896 0 1073741824) (hv : v < 3) (hS : S < 128) : 0 ≤ fbR σ n v S ∧ fbR σ n v S ≤ 1073741824 := by
  have := fbB_bd hT hR hv hS n hT.2.1
  unfold fbR NV
  split <;> omega
theorem bkI_18 {σ : Nat → Nat → Int} {n nv v : Nat} (hT : tI σ n nv) (hR : bd σ 19 896 0 1073741824) (h18 : bd σ 18 384 0 1073741824) (hv : v < 3) : ∀ j, j < 128 → bd (bkI σ n v j) 18 384 0 1073741824
  | 0, _ => h18
  | j + 1, hj => by
    have ih := bkI_18 hT hR h18 hv j (by omega)
    have hT' : tI (bkI σ n v j) n nv := hT.congr (fun k hk => bkI_ne (by omega) (by omega) j)
    have hR' := bkI_bd hT hR hv j (by omega)
    intro i hi
    have ih0 := ih i hi
    unfold bkI
    split
    · by_cases e : i = v * 128 + (j + 1)
      · subst e; rw [zU_self]; exact fbR_bd hT' hR' hv hj
      · rw [zU_nj e, fbS_ne (by decide)]; exact ih0
    · by_cases e : i = v * 128 + (j + 1)
      · subst e; rw [zU_self]; unfold NV; omega
      · rw [zU_nj e]; exact ih0
theorem bkO_18 {σ : Nat → Nat → Int} {n nv : Nat} (hT : tI σ n nv) (hR : bd σ 19 896 0 1073741824) (h18 : bd σ 18 384 0 1073741824) : ∀ v, v ≤ 3 → bd (bkO σ n v) 18 384 0 1073741824
  | 0, _ => h18
  | v + 1, hv => by
    have ih := bkO_18 hT hR h18 v (by omega)
    have hT' : tI (bkO σ n v) n nv := hT.congr (fun k hk => bkO_ne (by omega) (by omega) v)
    have := pow_n hT.2.1
    unfold bkO
    exact bkI_18 hT' (bkO_bd hT hR v (by omega)) ih (by omega) _ (by omega)
