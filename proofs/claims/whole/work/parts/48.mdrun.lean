/-! THE REFERENCE'S RUN: rows as numbers, the found plan -/
theorem and_7 (x : Nat) : x &&& 7 = x % 8 := Nat.and_two_pow_sub_one_eq_mod x 3
def d8 (x k : Nat) : Nat := x / 2 ^ (3 * k) % 8
theorem roF_s {σ : Nat → Nat → Int} (h48 : bd σ 48 7 0 6) {m : Nat} (hm : m < 7) : roF σ (m + 1) = 2 ^ (3 * m) * tr σ m + roF σ m := by
  have h := Nat.two_pow_add_eq_or_of_lt (roF_bd h48 m (by omega)) (tr σ m)
  rw [roF, h, Nat.or_comm, Nat.mul_comm]
theorem roF_d8 {σ : Nat → Nat → Int} (h48 : bd σ 48 7 0 6) : ∀ m, m ≤ 7 → ∀ k, d8 (roF σ m) k = if k < m then tr σ k else 0
  | 0, _, k => by unfold d8 roF; simp
  | m + 1, hm, k => by
    have ih := roF_d8 h48 m (by omega) k
    have hb := roF_bd h48 m (by omega)
    have h1 := h48 m (by omega)
    have ht : tr σ m < 7 := by unfold tr; omega
    rw [roF_s h48 (by omega)]
    unfold d8 at ih ⊢
    rcases Nat.lt_trichotomy k m with h | h | h
    · have e : 2 ^ (3 * m) * tr σ m = 2 ^ (3 * k) * (8 * (2 ^ (3 * (m - k - 1)) * tr σ m)) := by
        rw [show 3 * m = 3 * k + (3 + 3 * (m - k - 1)) by omega, Nat.pow_add, Nat.pow_add]
        simp only [Nat.mul_assoc]
      rw [e, Nat.mul_add_div (Nat.two_pow_pos _), Nat.mul_add_mod, ih, if_pos h, if_pos (by omega)]
    · subst h
      rw [Nat.mul_add_div (Nat.two_pow_pos _), Nat.div_eq_of_lt hb, if_pos (by omega)]
      omega
    · have e : 2 ^ (3 * m) * tr σ m + roF σ m < 2 ^ (3 * k) := by
        have h2 : 2 ^ (3 * m) * tr σ m + roF σ m < 2 ^ (3 * m) * 8 := by
          have := Nat.mul_le_mul_left (2 ^ (3 * m)) (show tr σ m + 1 ≤ 7 + 1 by omega)
          rw [Nat.mul_add] at this
          omega
        have h3 : 2 ^ (3 * m) * 8 = 2 ^ (3 * m + 3) := by rw [Nat.pow_add]
        have h4 : 2 ^ (3 * m + 3) ≤ 2 ^ (3 * k) := Nat.pow_le_pow_right (by decide) (by omega)
        omega
      rw [Nat.div_eq_of_lt e, if_neg (by omega)]
def rwI (σ : Nat → Nat → Int) : Prop := ∀ i, i < 384 → ∀ k, d8 (σ 47 i).toNat k ≤ 6
theorem kpF_rw {σ : Nat → Nat → Int} {v m : Nat} (h48 : bd σ 48 7 0 6) (hm : m ≤ 7) (h : rwI σ) : rwI (kpF σ v m) := by
  intro i hi k
  unfold kpF
  split
  · by_cases e : i = 128 * v + soF σ m
    · subst e
      rw [zU_self, Int.toNat_natCast, roF_d8 h48 m hm k]
      split
      · have := h48 k (by omega); unfold tr; omega
      · omega
    · rw [zU_nj e, zU_ne (by decide), dbK_ne (by decide)]; exact h i hi k
  · rw [dbK_ne (by decide)]; exact h i hi k
theorem dfs_rw {n nv v : Nat} (hn7 : n ≤ 7) (hv : v < 3) : ∀ (f m c : Nat) (σ : Nat → Nat → Int), c ≤ n → dI σ n m → mI σ n nv → bd σ 48 7 0 6 → bd σ 46 384 (-1) 150000 → bd σ 47 384 0 2097151 → rwI σ → rwI (dfs n v f m c σ) := by
  intro f
  induction f with
  | zero => intro m c σ _ _ _ _ _ _ h; rw [dfs]; exact h
  | succ f ihf =>
    intro m c
    induction c with
    | zero => intro σ _ _ _ _ _ _ h; rw [dfs]; exact h
    | succ c ihc =>
      intro σ hc hd hM a b d h
      rw [dfs]
      split
      · rename_i hm
        have hx : n - (c + 1) < n := by omega
        obtain ⟨hmn, hM1, a48, a46, hd2, hM2, b48, b46, b47⟩ := dfs_push hn7 hv hd hm hx hM a b d
        obtain ⟨hd3, hM3, hT3, c48, c46, c47⟩ := dfs_back (f := f) hn7 hv hd hm hx hM a b d
        refine ihc _ (by omega) hd3 hM3 c48 c46 c47 (ihf (m + 1) n _ (Nat.le_refl n) hd2 hM2 b48 b46 b47 (kpF_rw a48 (by omega) ?_))
        intro i hi k; rw [zU_ne (by decide)]; exact h i hi k
      · exact ihc σ (by omega) hd hM a b d h
theorem zU_uu {σ : Nat → Nat → Int} {h i : Nat} {a b : Int} : zU (zU σ h i a) h i b = zU σ h i b := by
  funext k j
  unfold zU
  split <;> rfl
theorem bit_n {S k : Nat} : S / 2 ^ k &&& 1 = if S.testBit k = true then 1 else 0 := by
  have hle : S / 2 ^ k &&& 1 ≤ 1 := Nat.and_le_right
  by_cases h : S.testBit k = true
  · rw [if_pos h]; have := tb_1.mpr h; omega
  · rw [if_neg h]; have := tb_0.mpr h; omega
/-- tellRound -/
def tcK (σ : Nat → Nat → Int) (v S k : Nat) : Nat → Nat → Int := zU σ 52 v ((cnt (fun i => S.testBit i) k : Nat) : Int)
def ttK (σ : Nat → Nat → Int) (x : Nat) : Nat → Nat → Nat → Int
  | 0 => σ
  | k + 1 => zU (ttK σ x k) 48 k ((d8 x k : Nat) : Int)
theorem ttK_ne {σ : Nat → Nat → Int} {x h : Nat} (hh : h ≠ 48) : ∀ k, ttK σ x k h = σ h
  | 0 => rfl
  | k + 1 => by unfold ttK; rw [zU_ne hh, ttK_ne hh k]
theorem ttK_48 {σ : Nat → Nat → Int} {x : Nat} (hx : ∀ k, d8 x k ≤ 6) (h : bd σ 48 7 0 6) : ∀ k, bd (ttK σ x k) 48 7 0 6
  | 0 => h
  | k + 1 => by
    intro i hi
    have ih := ttK_48 hx h k i hi
    unfold ttK
    by_cases e : i = k
    · subst e; rw [zU_self]; have := hx i; omega
    · rw [zU_nj e]; exact ih
def tlA (σ : Nat → Nat → Int) (n v S : Nat) : Nat → Nat → Int := zU (tcK σ v S n) 53 v (-1)
def tlB (σ : Nat → Nat → Int) (n v S : Nat) : Nat → Nat → Int := ttK (zU (tlA σ n v S) 51 v (σ 47 (128 * v + S))) (σ 47 (128 * v + S)).toNat (cnt (fun i => S.testBit i) n)
def tlF (σ : Nat → Nat → Int) (n v S : Nat) : Nat → Nat → Int :=
  if S = 0 then tlA σ n v S else zU (dbK (tlB σ n v S) v (cnt (fun i => S.testBit i) n)) 53 v (drR (tlB σ n v S) v (cnt (fun i => S.testBit i) n))
theorem tlA_ne {σ : Nat → Nat → Int} {n v S h : Nat} (h1 : h ≠ 52) (h2 : h ≠ 53) : tlA σ n v S h = σ h := by unfold tlA tcK; rw [zU_ne h2, zU_ne h1]
theorem tlB_ne {σ : Nat → Nat → Int} {n v S h : Nat} (h1 : h ≠ 52) (h2 : h ≠ 53) (h3 : h ≠ 51) (h4 : h ≠ 48) : tlB σ n v S h = σ h := by unfold tlB; rw [ttK_ne h4, zU_ne h3, tlA_ne h1 h2]
theorem tlF_ne {σ : Nat → Nat → Int} {n v S h : Nat} (h1 : h ≠ 52) (h2 : h ≠ 53) (h3 : h ≠ 51) (h4 : h ≠ 48) (h5 : h ≠ 50) : tlF σ n v S h = σ h := by
  unfold tlF
  split
  · exact tlA_ne h1 h2
  · rw [zU_ne h2, dbK_ne h5, tlB_ne h1 h2 h3 h4]
theorem tlB_48 {σ : Nat → Nat → Int} {n v S : Nat} (hw : rwI σ) (hv : v < 3) (hS : S < 128) (h : bd σ 48 7 0 6) : bd (tlB σ n v S) 48 7 0 6 :=
  ttK_48 (hw (128 * v + S) (by omega)) (by intro i hi; rw [zU_ne (by decide), tlA_ne (by decide) (by decide)]; exact h i hi) _
theorem tlF_48 {σ : Nat → Nat → Int} {n v S : Nat} (hw : rwI σ) (hv : v < 3) (hS : S < 128) (h : bd σ 48 7 0 6) : bd (tlF σ n v S) 48 7 0 6 := by
  unfold tlF
  split
  · intro i hi; rw [tlA_ne (by decide) (by decide)]; exact h i hi
  · intro i hi; rw [zU_ne (by decide), dbK_ne (by decide)]; exact tlB_48 hw hv hS h i hi
/-- run -/
def daF (σ : Nat → Nat → Int) (n : Nat) : Nat → Nat → Nat → Int
  | 0 => σ
  | v + 1 => dfs n v (n + 1) 0 n (erF (daF σ n v) v 128)
theorem daF_ne {σ : Nat → Nat → Int} {n h : Nat} (h1 : h ≠ 46) (h2 : h ≠ 47) (h3 : h ≠ 48) (h4 : h ≠ 50) : ∀ v, daF σ n v h = σ h
  | 0 => rfl
  | v + 1 => by unfold daF; rw [dfs_ne h1 h2 h3 h4, erF_ne h1, daF_ne h1 h2 h3 h4 v]
theorem daF_all {σ : Nat → Nat → Int} {n nv : Nat} (hM : mI σ n nv) (a : bd σ 48 7 0 6) (b : bd σ 46 384 (-1) 150000) (d : bd σ 47 384 0 2097151) (w : rwI σ) : ∀ v, v ≤ 3 → mI (daF σ n v) n nv ∧ bd (daF σ n v) 48 7 0 6 ∧ bd (daF σ n v) 46 384 (-1) 150000 ∧ bd (daF σ n v) 47 384 0 2097151 ∧ rwI (daF σ n v)
  | 0, _ => ⟨hM, a, b, d, w⟩
  | v + 1, hv => by
    obtain ⟨x1, x2, x3, x4, x5⟩ := daF_all hM a b d w v (by omega)
    have y1 : mI (erF (daF σ n v) v 128) n nv := x1.congr (by rw [erF_ne (by decide)]) (by rw [erF_ne (by decide)]) (fun k k1 k2 => erF_ne (by omega) 128)
    have y2 : bd (erF (daF σ n v) v 128) 48 7 0 6 := by intro i hi; rw [erF_ne (by decide)]; exact x2 i hi
    have y4 : bd (erF (daF σ n v) v 128) 47 384 0 2097151 := by intro i hi; rw [erF_ne (by decide)]; exact x4 i hi
    have y5 : rwI (erF (daF σ n v) v 128) := by intro i hi; rw [erF_ne (by decide)]; exact x5 i hi
    have y0 : dI (erF (daF σ n v) v 128) n 0 := fun k hk => absurd hk (by omega)
    obtain ⟨z1, z2, z3⟩ := dfs_bd hM.2.1 (show v < 3 by omega) (n + 1) 0 n _ (Nat.le_refl n) y0 y1 y2 (erF_46 x3 128) y4
    unfold daF
    exact ⟨y1.congr (by rw [dfs_ne (by decide) (by decide) (by decide) (by decide)]) (by rw [dfs_ne (by decide) (by decide) (by decide) (by decide)]) (fun k k1 k2 => dfs_ne (by omega) (by omega) (by omega) (by omega) _ _ _ _), z1, z2, z3, dfs_rw hM.2.1 (show v < 3 by omega) (n + 1) 0 n _ (Nat.le_refl n) y0 y1 y2 (erF_46 x3 128) y4 y5⟩
def rB (A : Nat → Nat → Int) (n nv b : Nat) : Nat → Nat → Int := zU (zU (zU (zU A 32 21 (coF A n nv b (-1))) 32 18 1) 32 19 n) 32 20 nv
def svF (A : Nat → Nat → Int) (n nv b : Nat) : Nat → Nat → Nat → Int
  | 0 => rB A n nv b
  | v + 1 => zU (svF A n nv b v) 54 v (coF A n nv (bpN A n nv (v : Int)) (v : Int) - coF A n nv b (-1))
theorem svF_ne {A : Nat → Nat → Int} {n nv b h : Nat} (h1 : h ≠ 32) (h2 : h ≠ 54) : ∀ v, svF A n nv b v h = A h
  | 0 => by unfold svF rB; rw [zU_ne h1, zU_ne h1, zU_ne h1, zU_ne h1]
  | v + 1 => by unfold svF; rw [zU_ne h2, svF_ne h1 h2 v]
theorem svF_32 {A : Nat → Nat → Int} {n nv b : Nat} : ∀ v, svF A n nv b v 32 = rB A n nv b 32
  | 0 => rfl
  | v + 1 => by
    show zU (svF A n nv b v) 54 v _ 32 = _
    rw [zU_ne (by decide)]; exact svF_32 v
def vhF (τ : Nat → Nat → Int) (b : Nat) : Nat → Nat → Nat → Int
  | 0 => τ
  | k + 1 => zU (zU (vhF τ b k) 49 k ((dg b k : Nat) : Int)) 50 k (-1)
theorem vhF_ne {τ : Nat → Nat → Int} {b h : Nat} (h1 : h ≠ 49) (h2 : h ≠ 50) : ∀ k, vhF τ b k h = τ h
  | 0 => rfl
  | k + 1 => by unfold vhF; rw [zU_ne h2, zU_ne h1, vhF_ne h1 h2 k]
theorem vhF_49 {τ : Nat → Nat → Int} {b : Nat} : ∀ k j, j < k → vhF τ b k 49 j = ((dg b j : Nat) : Int)
  | 0, j, h => by omega
  | k + 1, j, h => by
    unfold vhF
    rw [zU_ne (by decide)]
    by_cases e : j = k
    · subst e; rw [zU_self]
    · rw [zU_nj e]; exact vhF_49 k j (by omega)
def tlO (τ : Nat → Nat → Int) (n b : Nat) : Nat → Nat → Nat → Int
  | 0 => τ
  | v + 1 => tlF (tlO τ n b v) n v (siF b v n)
theorem tlO_ne {τ : Nat → Nat → Int} {n b h : Nat} (h1 : h ≠ 52) (h2 : h ≠ 53) (h3 : h ≠ 51) (h4 : h ≠ 48) (h5 : h ≠ 50) : ∀ v, tlO τ n b v h = τ h
  | 0 => rfl
  | v + 1 => by unfold tlO; rw [tlF_ne h1 h2 h3 h4 h5, tlO_ne h1 h2 h3 h4 h5 v]
theorem tlO_48 {τ : Nat → Nat → Int} {n b : Nat} (hn : n ≤ 7) (hw : rwI τ) (h : bd τ 48 7 0 6) : ∀ v, v ≤ 3 → bd (tlO τ n b v) 48 7 0 6
  | 0, _ => h
  | v + 1, hv => by
    unfold tlO
    refine tlF_48 ?_ (by omega) (siF_lt hn) (tlO_48 hn hw h v (by omega))
    intro i hi k; rw [tlO_ne (by decide) (by decide) (by decide) (by decide) (by decide)]; exact hw i hi k
def bgF (τ : Nat → Nat → Int) (b : Nat) : Nat → Nat → Nat → Int
  | 0 => τ
  | k + 1 => zU (bgF τ b k) 50 k (if dg b k = 3 then -1 else τ 50 k)
theorem bgF_ne {τ : Nat → Nat → Int} {b h : Nat} (h1 : h ≠ 50) : ∀ k, bgF τ b k h = τ h
  | 0 => rfl
  | k + 1 => by unfold bgF; rw [zU_ne h1, bgF_ne h1 k]
theorem bgF_hi {τ : Nat → Nat → Int} {b : Nat} : ∀ k j, k ≤ j → bgF τ b k 50 j = τ 50 j
  | 0, _, _ => rfl
  | k + 1, j, h => by unfold bgF; rw [zU_nj (by omega), bgF_hi k j (by omega)]
def mdF (σ : Nat → Nat → Int) (n nv : Nat) : Nat → Nat → Int :=
  bgF (tlO (vhF (svF (daF σ n nv) n nv (bpN (daF σ n nv) n nv (-1)) nv) (bpN (daF σ n nv) n nv (-1)) n) n (bpN (daF σ n nv) n nv (-1)) nv) (bpN (daF σ n nv) n nv (-1)) n
theorem cnt_s {P : Nat → Bool} {k : Nat} : cnt P (k + 1) = cnt P k + if P k = true then 1 else 0 := rfl
