/-! LONGS: shifts -/
theorem zLk : ∀ k, k < 64 → (((zI ((k : Nat) : Int)).toInt64 &&& 63).toBitVec.smod 64).toNat = k := by decide +kernel
theorem zL_tp : ∀ k, k < 64 → BitVec.twoPow 64 k = BitVec.ofInt 64 (2 ^ k) := by decide +kernel
theorem zL_shl (a : Int) {k : Nat} (hk : k < 64) : zL a <<< ((zI (k : Int)).toInt64 &&& 63) = zL (a * 2 ^ k) := by
  apply Int64.toBitVec.inj
  show (zL a).toBitVec <<< (((zI (k : Int)).toInt64 &&& 63).toBitVec.smod 64).toNat = _
  rw [zLk k hk, BitVec.shiftLeft_eq_mul_twoPow, zL_tp k hk]
  show BitVec.ofInt 64 a * BitVec.ofInt 64 (2 ^ k) = BitVec.ofInt 64 (a * 2 ^ k)
  rw [BitVec.ofInt_mul]
theorem zL_shr {p k : Nat} (hp : p < 2 ^ 63) (hk : k < 64) : zL (p : Int) >>> ((zI (k : Int)).toInt64 &&& 63) = zL ((p / 2 ^ k : Nat) : Int) := by
  have h2 : p / 2 ^ k ≤ p := Nat.div_le_self _ _
  generalize hq : p / 2 ^ k = q at h2 ⊢
  apply Int64.toInt_inj.mp
  show ((zL (p : Int)).toBitVec.sshiftRight (((zI (k : Int)).toInt64 &&& 63).toBitVec.smod 64).toNat).toInt = _
  rw [zLk k hk, BitVec.toInt_sshiftRight]
  show (zL (p : Int)).toInt >>> k = _
  rw [zL_toInt ⟨by omega, by omega⟩, zL_toInt ⟨by omega, by omega⟩, Int.shiftRight_eq_div_pow, ← hq]
  rfl
/-! PLANS: the class's tables of prices -/
def pnG (σ : Nat → Nat → Int) (S : Nat) : Nat → Int
  | 0 => 0
  | i + 1 => if S.testBit i = true then pnG σ S i + σ 6 i else pnG σ S i
def coG (S : Nat) : Nat → Nat
  | 0 => 0
  | i + 1 => if S.testBit i = true then coG S i + 2 ^ (2 * (6 - i)) else coG S i
theorem pnG_t {σ : Nat → Nat → Int} {S i : Nat} (h : S.testBit i = true) : pnG σ S (i + 1) = pnG σ S i + σ 6 i := by rw [pnG, if_pos h]
theorem pnG_f {σ : Nat → Nat → Int} {S i : Nat} (h : ¬ S.testBit i = true) : pnG σ S (i + 1) = pnG σ S i := by rw [pnG, if_neg h]
theorem coG_t {S i : Nat} (h : S.testBit i = true) : coG S (i + 1) = coG S i + 2 ^ (2 * (6 - i)) := by rw [coG, if_pos h]
theorem coG_f {S i : Nat} (h : ¬ S.testBit i = true) : coG S (i + 1) = coG S i := by rw [coG, if_neg h]
theorem pnG_bd {σ : Nat → Nat → Int} {S : Nat} (h : bd σ 6 7 0 1000000000) : ∀ i, i ≤ 7 → 0 ≤ pnG σ S i ∧ pnG σ S i ≤ 1000000000 * i
  | 0, _ => ⟨Int.le_refl 0, Int.le_refl 0⟩
  | i + 1, hi => by
    have ih := pnG_bd (S := S) h i (by omega)
    have hy := h i (by omega)
    unfold pnG
    split <;> omega
theorem p2_le {i : Nat} : 2 ^ (2 * (6 - i)) ≤ 4096 := Nat.le_trans (Nat.pow_le_pow_right (by decide) (show 2 * (6 - i) ≤ 12 by omega)) (by decide)
theorem coG_bd {S : Nat} : ∀ i, coG S i ≤ 4096 * i
  | 0 => Nat.le_refl 0
  | i + 1 => by
    have ih := coG_bd (S := S) i
    have := p2_le (i := i)
    unfold coG
    split <;> omega
def fpr (σ : Nat → Nat → Int) (n v S : Nat) : Int := if σ 18 (v * 128 + S) = 1073741824 then 1152921504606846976 else σ 15 v * (σ 18 (v * 128 + S) - σ 13 v) * 2 ^ 14 + (v : Int) * (coG S n : Nat)
theorem fpr_bd {σ : Nat → Nat → Int} {n nv v S : Nat} (hT : tI σ n nv) (h18 : bd σ 18 384 0 1073741824) (hv : v < 3) (hS : S < 128) : -1125899906842624 ≤ fpr σ n v S ∧ fpr σ n v S ≤ 1152921504606846976 := by
  obtain ⟨-, hn7, -, -, -, -, -, -, -, -, -, -, -, -, -, h13, -, h15, -⟩ := hT
  have a := h18 (v * 128 + S) (by omega)
  have b := h13 v hv
  have c := h15 v hv
  have d := coG_bd (S := S) n
  have hm : -86399000 ≤ σ 15 v * (σ 18 (v * 128 + S) - σ 13 v) ∧ σ 15 v * (σ 18 (v * 128 + S) - σ 13 v) ≤ 1073741824000 := by
    have e1 := Int.mul_le_mul_of_nonneg_left (show σ 18 (v * 128 + S) - σ 13 v ≤ 1073741824 by omega) c.1
    have e2 := Int.mul_le_mul_of_nonneg_left (show -86399 ≤ σ 18 (v * 128 + S) - σ 13 v by omega) c.1
    generalize σ 15 v * (σ 18 (v * 128 + S) - σ 13 v) = z at e1 e2 ⊢
    omega
  unfold fpr
  generalize σ 15 v * (σ 18 (v * 128 + S) - σ 13 v) = z at hm ⊢
  split
  · omega
  · have hc : (v : Int) * (coG S n : Nat) ≤ 2 * 28672 ∧ 0 ≤ (v : Int) * (coG S n : Nat) := by
      rcases (show v = 0 ∨ v = 1 ∨ v = 2 by omega) with rfl | rfl | rfl <;> omega
    omega
/-- findPrices: one set's prices, vehicle by vehicle; the sets 1 .. j -/
def fpI (σ : Nat → Nat → Int) (n S : Nat) : Nat → Nat → Nat → Int
  | 0 => σ
  | x + 1 => zU (fpI σ n S x) 22 (x * 128 + S) (fpr σ n x S)
def fsk (σ : Nat → Nat → Int) (n S : Nat) : Int := pnG σ S n * 2 ^ 14 + 3 * (coG S n : Nat)
def fpO (σ : Nat → Nat → Int) (n nv : Nat) : Nat → Nat → Nat → Int
  | 0 => σ
  | j + 1 => fpI (zU (fpO σ n nv j) 23 (j + 1) (fsk σ n (j + 1))) n (j + 1) nv
theorem fpI_ne {σ : Nat → Nat → Int} {n S k : Nat} (hk : k ≠ 22) : ∀ x, fpI σ n S x k = σ k
  | 0 => rfl
  | x + 1 => by unfold fpI; rw [zU_ne hk, fpI_ne hk x]
theorem fpO_ne {σ : Nat → Nat → Int} {n nv k : Nat} (h1 : k ≠ 22) (h2 : k ≠ 23) : ∀ j, fpO σ n nv j k = σ k
  | 0 => rfl
  | j + 1 => by unfold fpO; rw [fpI_ne h1, zU_ne h2, fpO_ne h1 h2 j]
theorem pnG_congr {σ σ' : Nat → Nat → Int} {S : Nat} (h : σ' 6 = σ 6) : ∀ i, pnG σ' S i = pnG σ S i
  | 0 => rfl
  | i + 1 => by unfold pnG; rw [pnG_congr h i, h]
theorem fsk_congr {σ σ' : Nat → Nat → Int} {n S : Nat} (h : σ' 6 = σ 6) : fsk σ' n S = fsk σ n S := by unfold fsk; rw [pnG_congr h]
theorem fpr_congr {σ σ' : Nat → Nat → Int} {n v S : Nat} (h1 : σ' 18 = σ 18) (h2 : σ' 15 = σ 15) (h3 : σ' 13 = σ 13) : fpr σ' n v S = fpr σ n v S := by unfold fpr; rw [h1, h2, h3]
theorem fsk_bd {σ : Nat → Nat → Int} {n nv S : Nat} (hT : tI σ n nv) : 0 ≤ fsk σ n S ∧ fsk σ n S ≤ 1125899906842624 := by
  have h1 := pnG_bd (S := S) hT.2.2.2.2.2.2.2.2.1 n hT.2.1
  have h2 := coG_bd (S := S) n
  have h3 := hT.2.1
  unfold fsk
  omega
theorem fpI_bd {σ : Nat → Nat → Int} {n nv S : Nat} (hT : tI σ n nv) (h18 : bd σ 18 384 0 1073741824) (h22 : bd σ 22 384 (-1125899906842624) 1152921504606846976) (hS : S < 128) : ∀ x, x ≤ 3 → bd (fpI σ n S x) 22 384 (-1125899906842624) 1152921504606846976
  | 0, _ => h22
  | x + 1, hx => by
    intro i hi
    have ih := fpI_bd hT h18 h22 hS x (by omega) i hi
    unfold fpI
    by_cases e : i = x * 128 + S
    · subst e; rw [zU_self]; exact fpr_bd hT h18 (by omega) hS
    · rw [zU_nj e]; exact ih
theorem fpO_22 {σ : Nat → Nat → Int} {n nv : Nat} (hT : tI σ n nv) (h18 : bd σ 18 384 0 1073741824) (h22 : bd σ 22 384 (-1125899906842624) 1152921504606846976) : ∀ j, j < 128 → bd (fpO σ n nv j) 22 384 (-1125899906842624) 1152921504606846976
  | 0, _ => h22
  | j + 1, hj => by
    have ih := fpO_22 hT h18 h22 j (by omega)
    unfold fpO
    refine fpI_bd (nv := nv) (hT.congr (fun k hk => ?_)) ?_ ?_ hj nv hT.2.2.2.1
    · rw [zU_ne (by omega), fpO_ne (by omega) (by omega)]
    · intro i hi; rw [zU_ne (by decide), fpO_ne (by decide) (by decide)]; exact h18 i hi
    · intro i hi; rw [zU_ne (by decide)]; exact ih i hi
theorem fpO_23 {σ : Nat → Nat → Int} {n nv : Nat} (hT : tI σ n nv) (h23 : bd σ 23 128 0 1125899906842624) : ∀ j, bd (fpO σ n nv j) 23 128 0 1125899906842624
  | 0 => h23
  | j + 1 => by
    intro i hi
    have ih := fpO_23 hT h23 j i hi
    unfold fpO
    rw [fpI_ne (by decide)]
    by_cases e : i = j + 1
    · subst e; rw [zU_self]; exact fsk_bd hT
    · rw [zU_nj e]; exact ih
/-- cheapest: the least prices, vehicle by vehicle -/
def lwG (σ : Nat → Nat → Int) (v S : Nat) : Int := lwF S (fun P => σ 22 (v * 128 + P)) (σ 24) S S (σ 24 S)
def arS (σ : Nat → Nat → Int) (v a j : Nat) : Nat → Nat → Int := zUA σ 24 (fun S => if j < S ∧ S ≤ a then lwG σ v S else σ 24 S)
theorem lwF_congr {S : Nat} {pr g g' : Nat → Int} (h : ∀ x, x < S → g x = g' x) : ∀ (k Q : Nat) (x : Int), Q ≤ S → lwF S pr g k Q x = lwF S pr g' k Q x
  | 0, _, _, _ => rfl
  | k + 1, Q, x, hQ => by
    unfold lwF
    by_cases h0 : Q = 0
    · rw [if_pos h0, if_pos h0]
    · rw [if_neg h0, if_neg h0, h (S - Q) (by omega)]
      exact lwF_congr h k _ _ (Nat.and_le_right)
theorem arS_lw {σ : Nat → Nat → Int} {v a j : Nat} (hj : j ≤ a) : lwG (arS σ v a j) v j = lwG σ v j := by
  unfold lwG arS
  rw [zUA_ne (by decide), zUA_self]
  rw [lwF_congr (g' := σ 24) (fun x hx => if_neg (by omega)) j j _ (Nat.le_refl j), if_neg (by omega)]
theorem arS_step {σ : Nat → Nat → Int} {v a j : Nat} (hj : j + 1 ≤ a) : zU (arS σ v a (j + 1)) 24 (j + 1) (lwG σ v (j + 1)) = arS σ v a j := by
  funext k i
  by_cases hk : k = 24
  · subst hk
    by_cases hi : i = j + 1
    · subst hi
      rw [zU_self]
      unfold arS
      rw [zUA_self, if_pos ⟨by omega, hj⟩]
    · rw [zU_nj hi]
      unfold arS
      rw [zUA_self, zUA_self]
      by_cases h : j + 1 < i ∧ i ≤ a
      · rw [if_pos h, if_pos ⟨by omega, h.2⟩]
      · rw [if_neg h, if_neg (by omega)]
  · rw [zU_ne hk]
    unfold arS
    rw [zUA_ne hk, zUA_ne hk]
theorem arS_top {σ : Nat → Nat → Int} {v a : Nat} : arS σ v a a = σ := by
  funext k i
  unfold arS
  by_cases hk : k = 24
  · subst hk; rw [zUA_self, if_neg (by omega)]
  · rw [zUA_ne hk]
def cp0 (σ : Nat → Nat → Int) : Nat → Nat → Int := zUA σ 24 (fun j => if j < 128 then σ 23 j else σ 24 j)
def chV (σ : Nat → Nat → Int) (a : Nat) (r : Int) : Nat → Nat → Nat → Int
  | 0 => cp0 σ
  | v + 1 => if (v : Int) = r then chV σ a r v else arS (chV σ a r v) v a 0
theorem chV_ne {σ : Nat → Nat → Int} {a k : Nat} {r : Int} (hk : k ≠ 24) : ∀ v, chV σ a r v k = σ k
  | 0 => zUA_ne hk
  | v + 1 => by
    unfold chV
    split
    · exact chV_ne hk v
    · unfold arS; rw [zUA_ne hk, chV_ne hk v]
theorem lwF_lo {S : Nat} {pr g : Nat → Int} {lo x : Int} {k Q : Nat} (hQ : Q &&& S = Q) (hx : lo ≤ x) (h : ∀ P, P ≤ S → 0 < P → lo ≤ pr P + g (S - P)) : lo ≤ lwF S pr g k Q x := by
  rcases lwF_ex (S := S) (pr := pr) (g := g) k Q x hQ with e | ⟨P, p1, p2, e⟩
  · rw [e]; exact hx
  · rw [e]; exact h P (by rw [← p2]; exact Nat.and_le_right) p1
theorem chV_bd {σ : Nat → Nat → Int} {a : Nat} {r : Int} (ha : a < 128) (h22 : bd σ 22 384 (-1125899906842624) 1152921504606846976) (h23 : bd σ 23 128 0 1125899906842624) : ∀ v, v ≤ 3 → bd (chV σ a r v) 24 128 (-(1125899906842624 * v)) 1125899906842624
  | 0, _ => by
    intro i hi
    have h := h23 i hi
    unfold chV cp0
    rw [zUA_self, if_pos hi]
    omega
  | v + 1, hv => by
    intro i hi
    have ih := chV_bd (r := r) ha h22 h23 v (by omega)
    have ih0 := ih i hi
    unfold chV
    split
    · omega
    · unfold arS
      rw [zUA_self]
      split
      · rename_i h
        have hup : lwG (chV σ a r v) v i ≤ chV σ a r v 24 i := lwF_x _ _ _
        have hlo : -(1125899906842624 * ((v : Int) + 1)) ≤ lwG (chV σ a r v) v i := by
          refine lwF_lo (Nat.and_self i) (by omega) (fun P hP hP0 => ?_)
          have a1 := ih (i - P) (by omega)
          have a2 := h22 (v * 128 + P) (by omega)
          rw [chV_ne (by decide)]
          omega
        omega
      · omega
