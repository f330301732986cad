/-! THE REFERENCE'S SEARCH, as its loops do it -/
def tr (σ : Nat → Nat → Int) (k : Nat) : Nat := (σ 48 k).toNat
def mfF (σ : Nat → Nat → Int) (v s : Nat) : Nat → Bool
  | 0 => decide (σ 38 s = -1 ∨ σ 38 s = (v : Int))
  | k + 1 => mfF σ v s k && decide (σ 48 k ≠ (s : Int) ∧ σ 39 (7 * tr σ k + s) = 0 ∧ σ 40 (7 * s + tr σ k) = 0)
/-- drive: the second, the place, the load; none once it is too late -/
def drK (σ : Nat → Nat → Int) (v : Nat) : Nat → Option (Int × Nat × Int)
  | 0 => some (σ 42 v, 7, 0)
  | k + 1 => match drK σ v k with
    | none => none
    | some q => if σ 35 (tr σ k) < q.1 + σ 45 (8 * q.2.1 + tr σ k) then none else some (max (q.1 + σ 45 (8 * q.2.1 + tr σ k)) (σ 34 (tr σ k)) + σ 36 (tr σ k), tr σ k, q.2.2 + σ 33 (tr σ k))
def dbK (σ : Nat → Nat → Int) (v : Nat) : Nat → Nat → Nat → Int
  | 0 => σ
  | k + 1 => match drK σ v k with
    | none => dbK σ v k
    | some q => if σ 35 (tr σ k) < q.1 + σ 45 (8 * q.2.1 + tr σ k) then dbK σ v k else zU (dbK σ v k) 50 (tr σ k) (max (q.1 + σ 45 (8 * q.2.1 + tr σ k)) (σ 34 (tr σ k)))
def drR (σ : Nat → Nat → Int) (v m : Nat) : Int := match drK σ v m with
  | none => -1
  | some q => if q.1 + σ 45 (8 * q.2.1 + 7) ≤ σ 43 v ∧ q.2.2 ≤ σ 41 v then q.1 + σ 45 (8 * q.2.1 + 7) else -1
theorem drK_no {σ : Nat → Nat → Int} {v k : Nat} (h : drK σ v k = none) : ∀ j, k ≤ j → drK σ v j = none ∧ dbK σ v j = dbK σ v k := by
  intro j hj
  induction j with
  | zero => have : k = 0 := by omega
            subst this; exact ⟨h, rfl⟩
  | succ j ih =>
    by_cases e : k = j + 1
    · subst e; exact ⟨h, rfl⟩
    · obtain ⟨a, b⟩ := ih (by omega)
      exact ⟨by unfold drK; rw [a], by rw [dbK, a]; exact b⟩
theorem drK_late {σ : Nat → Nat → Int} {v k : Nat} {q : Int × Nat × Int} (h : drK σ v k = some q) (hl : σ 35 (tr σ k) < q.1 + σ 45 (8 * q.2.1 + tr σ k)) : drK σ v (k + 1) = none ∧ dbK σ v (k + 1) = dbK σ v k :=
  ⟨by unfold drK; rw [h]; dsimp only; rw [if_pos hl], by rw [dbK, h]; dsimp only; rw [if_pos hl]⟩
theorem drK_go {σ : Nat → Nat → Int} {v k : Nat} {q : Int × Nat × Int} (h : drK σ v k = some q) (hl : ¬ σ 35 (tr σ k) < q.1 + σ 45 (8 * q.2.1 + tr σ k)) : drK σ v (k + 1) = some (max (q.1 + σ 45 (8 * q.2.1 + tr σ k)) (σ 34 (tr σ k)) + σ 36 (tr σ k), tr σ k, q.2.2 + σ 33 (tr σ k)) ∧ dbK σ v (k + 1) = zU (dbK σ v k) 50 (tr σ k) (max (q.1 + σ 45 (8 * q.2.1 + tr σ k)) (σ 34 (tr σ k))) :=
  ⟨by rw [drK, h]; dsimp only; rw [if_neg hl], by rw [dbK, h]; dsimp only; rw [if_neg hl]⟩
theorem dbK_ne {σ : Nat → Nat → Int} {v h : Nat} (hh : h ≠ 50) : ∀ k, dbK σ v k h = σ h
  | 0 => rfl
  | k + 1 => by
    have ih := dbK_ne (σ := σ) (v := v) hh k
    cases hq : drK σ v k with
    | none => rw [dbK, hq]; exact ih
    | some q =>
      by_cases hl : σ 35 (tr σ k) < q.1 + σ 45 (8 * q.2.1 + tr σ k)
      · rw [(drK_late hq hl).2]; exact ih
      · rw [(drK_go hq hl).2, zU_ne hh]; exact ih
theorem drK_bd {σ : Nat → Nat → Int} {n nv v : Nat} (hM : mI σ n nv) (h48 : bd σ 48 7 0 6) (hv : v < 3) : ∀ k, k ≤ 7 → ∀ q, drK σ v k = some q → 0 ≤ q.1 ∧ q.1 ≤ 100000 ∧ q.2.1 ≤ 7 ∧ 0 ≤ q.2.2 ∧ q.2.2 ≤ 100000 * k
  | 0, _, q, e => by
    obtain ⟨-, -, -, -, -, -, -, -, -, -, -, -, -, h42, -⟩ := hM
    have := h42 v hv
    unfold drK at e
    cases e
    dsimp only
    omega
  | k + 1, hk, q, e => by
    cases hq : drK σ v k with
    | none => rw [drK, hq] at e; cases e
    | some q0 =>
      have ih := drK_bd hM h48 hv k (by omega) q0 hq
      have h1 := h48 k (by omega)
      have ht : tr σ k < 7 := by unfold tr; omega
      obtain ⟨-, -, -, -, h33, h34, h35, h36, -, -, -, -, -, -, -, -, h45⟩ := hM
      have a33 := h33 (tr σ k) ht
      have a34 := h34 (tr σ k) ht
      have a35 := h35 (tr σ k) ht
      have a36 := h36 (tr σ k) ht
      have a45 := h45 (8 * q0.2.1 + tr σ k) (by omega)
      by_cases hl : σ 35 (tr σ k) < q0.1 + σ 45 (8 * q0.2.1 + tr σ k)
      · rw [(drK_late hq hl).1] at e; cases e
      · rw [(drK_go hq hl).1] at e
        cases e
        dsimp only
        omega
theorem drR_bd {σ : Nat → Nat → Int} {n nv v k : Nat} (hM : mI σ n nv) (h48 : bd σ 48 7 0 6) (hv : v < 3) (hk : k ≤ 7) : -1 ≤ drR σ v k ∧ drR σ v k ≤ 150000 := by
  unfold drR
  cases hq : drK σ v k with
  | none => dsimp only; omega
  | some q =>
    have ih := drK_bd hM h48 hv k hk q hq
    obtain ⟨-, -, -, -, -, -, -, -, -, -, -, -, -, -, -, -, h45⟩ := hM
    have a45 := h45 (8 * q.2.1 + 7) (by omega)
    dsimp only
    split <;> omega
def soF (σ : Nat → Nat → Int) : Nat → Nat
  | 0 => 0
  | k + 1 => wi (soF σ k) (tr σ k)
def roF (σ : Nat → Nat → Int) : Nat → Nat
  | 0 => 0
  | k + 1 => roF σ k ||| tr σ k * 2 ^ (3 * k)
theorem soF_128 {σ : Nat → Nat → Int} (h48 : bd σ 48 7 0 6) : ∀ k, k ≤ 7 → soF σ k < 128
  | 0, _ => by show 0 < 128; decide
  | k + 1, hk => by
    have h1 := h48 k (by omega)
    exact wi_128 (soF_128 h48 k (by omega)) (by unfold tr; omega)
theorem roF_bd {σ : Nat → Nat → Int} (h48 : bd σ 48 7 0 6) : ∀ k, k ≤ 7 → roF σ k < 2 ^ (3 * k)
  | 0, _ => by show 0 < 1; decide
  | k + 1, hk => by
    have h1 := h48 k (by omega)
    have ih := roF_bd h48 k (by omega)
    have e : 2 ^ (3 * (k + 1)) = 8 * 2 ^ (3 * k) := by rw [show 3 * (k + 1) = 3 + 3 * k by omega, Nat.pow_add]
    unfold roF
    refine Nat.or_lt_two_pow ?_ ?_
    · omega
    · rw [e]
      have : tr σ k < 8 := by unfold tr; omega
      exact Nat.mul_lt_mul_of_pos_right this (Nat.two_pow_pos _)
/-- keep -/
def kpF (σ : Nat → Nat → Int) (v m : Nat) : Nat → Nat → Int :=
  if 0 ≤ drR σ v m ∧ (σ 46 (128 * v + soF σ m) < 0 ∨ drR σ v m < σ 46 (128 * v + soF σ m)) then zU (zU (dbK σ v m) 46 (128 * v + soF σ m) (drR σ v m)) 47 (128 * v + soF σ m) (roF σ m : Nat) else dbK σ v m
theorem kpF_ne {σ : Nat → Nat → Int} {v m h : Nat} (h1 : h ≠ 50) (h2 : h ≠ 46) (h3 : h ≠ 47) : kpF σ v m h = σ h := by
  unfold kpF
  split
  · rw [zU_ne h3, zU_ne h2, dbK_ne h1]
  · exact dbK_ne h1 m
theorem kpF_46 {σ : Nat → Nat → Int} {n nv v m : Nat} (hM : mI σ n nv) (h48 : bd σ 48 7 0 6) (hv : v < 3) (hm : m ≤ 7) (h : bd σ 46 384 (-1) 150000) : bd (kpF σ v m) 46 384 (-1) 150000 := by
  intro i hi
  have := h i hi
  have hd := drR_bd hM h48 hv hm
  unfold kpF
  split
  · rw [zU_ne (by decide)]
    by_cases e : i = 128 * v + soF σ m
    · subst e; rw [zU_self]; exact hd
    · rw [zU_nj e, dbK_ne (by decide)]; exact this
  · rw [dbK_ne (by decide)]; exact this
theorem kpF_47 {σ : Nat → Nat → Int} {v m : Nat} (h48 : bd σ 48 7 0 6) (hm : m ≤ 7) (h : bd σ 47 384 0 2097151) : bd (kpF σ v m) 47 384 0 2097151 := by
  intro i hi
  have := h i hi
  have hr := roF_bd h48 m hm
  have hp : 2 ^ (3 * m) ≤ 2 ^ 21 := Nat.pow_le_pow_right (by decide) (by omega)
  unfold kpF
  split
  · by_cases e : i = 128 * v + soF σ m
    · subst e; rw [zU_self]; omega
    · rw [zU_nj e, zU_ne (by decide), dbK_ne (by decide)]; exact this
  · rw [dbK_ne (by decide)]; exact this
/-- driveAll's clearing -/
def erF (σ : Nat → Nat → Int) (v : Nat) : Nat → Nat → Nat → Int
  | 0 => σ
  | j + 1 => zU (erF σ v j) 46 (128 * v + j) (-1)
theorem erF_ne {σ : Nat → Nat → Int} {v h : Nat} (hh : h ≠ 46) : ∀ j, erF σ v j h = σ h
  | 0 => rfl
  | j + 1 => by unfold erF; rw [zU_ne hh, erF_ne hh j]
theorem erF_46 {σ : Nat → Nat → Int} {v : Nat} (h : bd σ 46 384 (-1) 150000) : ∀ j, bd (erF σ v j) 46 384 (-1) 150000
  | 0 => h
  | j + 1 => by
    intro i hi
    have ih := erF_46 (v := v) h j i hi
    unfold erF
    by_cases e : i = 128 * v + j
    · subst e; rw [zU_self]; omega
    · rw [zU_nj e]; exact ih
/-- the search: depth left f, m stops in the trial, c candidates left -/
def dfs (n v : Nat) : Nat → Nat → Nat → (Nat → Nat → Int) → Nat → Nat → Int
  | 0, _, _, σ => σ
  | _ + 1, _, 0, σ => σ
  | f + 1, m, c + 1, σ => if mfF σ v (n - (c + 1)) m = true then dfs n v (f + 1) m c (dfs n v f (m + 1) n (kpF (zU σ 48 m ((n - (c + 1) : Nat) : Int)) v (m + 1))) else dfs n v (f + 1) m c σ
termination_by f _ c => (f, c)
/-- the trial: different stops -/
def dI (σ : Nat → Nat → Int) (n m : Nat) : Prop := ∀ k, k < m → 0 ≤ σ 48 k ∧ σ 48 k < (n : Int) ∧ (soF σ k).testBit (tr σ k) = false
theorem soF_bit {σ : Nat → Nat → Int} {x : Nat} : ∀ m, (soF σ m).testBit x = true → ∃ k, k < m ∧ tr σ k = x
  | 0, h => by simp [soF] at h
  | m + 1, h => by
    unfold soF at h
    rw [wi_bit] at h
    by_cases e : tr σ m = x
    · exact ⟨m, by omega, e⟩
    · obtain ⟨k, h1, h2⟩ := soF_bit m (by simpa [e] using h)
      exact ⟨k, by omega, h2⟩
theorem cnt_le (P : Nat → Bool) : ∀ n, cnt P n ≤ n
  | 0 => Nat.le_refl 0
  | n + 1 => by
    have := cnt_le P n
    unfold cnt
    split <;> omega
theorem cnt_zero (n : Nat) : cnt (fun i => Nat.testBit 0 i) n = 0 := by
  induction n with
  | zero => rfl
  | succ k ih => unfold cnt; rw [ih]; simp
theorem cnt_wi {S s n : Nat} (h : S.testBit s = false) (hs : s < n) : cnt (fun i => (wi S s).testBit i) n = cnt (fun i => S.testBit i) n + 1 := by
  have e := cnt_one (P := fun i => S.testBit i) (P' := fun i => (wi S s).testBit i) (s := s) h (by show (wi S s).testBit s = true; rw [wi_bit]; simp) (fun i hi => by
    show (wi S s).testBit i = S.testBit i
    rw [wi_bit]; simp [Ne.symm hi]) n
  rw [e, if_pos hs]
theorem dI_cnt {σ : Nat → Nat → Int} {n : Nat} : ∀ m, dI σ n m → cnt (fun i => (soF σ m).testBit i) n = m
  | 0, _ => cnt_zero n
  | m + 1, h => by
    have ih := dI_cnt m (fun k hk => h k (by omega))
    obtain ⟨h1, h2, h3⟩ := h m (by omega)
    show cnt (fun i => (wi (soF σ m) (tr σ m)).testBit i) n = m + 1
    rw [cnt_wi h3 (by unfold tr; omega), ih]
theorem mfF_all {σ : Nat → Nat → Int} {v s : Nat} : ∀ m, mfF σ v s m = true → (σ 38 s = -1 ∨ σ 38 s = (v : Int)) ∧ ∀ k, k < m → σ 48 k ≠ (s : Int) ∧ σ 39 (7 * tr σ k + s) = 0 ∧ σ 40 (7 * s + tr σ k) = 0
  | 0, h => ⟨by simpa [mfF] using h, fun k hk => by omega⟩
  | m + 1, h => by
    unfold mfF at h
    simp only [Bool.and_eq_true, decide_eq_true_eq] at h
    obtain ⟨a, b⟩ := mfF_all m h.1
    refine ⟨a, fun k hk => ?_⟩
    by_cases e : k = m
    · subst e; exact h.2
    · exact b k (by omega)
theorem dI_free {σ : Nat → Nat → Int} {n v s m : Nat} (hd : dI σ n m) (h : mfF σ v s m = true) : (soF σ m).testBit s = false := by
  cases hb : (soF σ m).testBit s with
  | false => rfl
  | true =>
    obtain ⟨k, h1, h2⟩ := soF_bit m hb
    have := ((mfF_all m h).2 k h1).1
    have h3 := hd k h1
    unfold tr at h2
    omega
theorem dI_lt {σ : Nat → Nat → Int} {n v s m : Nat} (hd : dI σ n m) (h : mfF σ v s m = true) (hs : s < n) : m < n := by
  have h1 := cnt_wi (dI_free hd h) hs
  rw [dI_cnt m hd] at h1
  have := cnt_le (fun i => (wi (soF σ m) s).testBit i) n
  omega
theorem soF_congr {σ σ' : Nat → Nat → Int} : ∀ m, (∀ k, k < m → σ' 48 k = σ 48 k) → soF σ' m = soF σ m
  | 0, _ => rfl
  | m + 1, h => by
    unfold soF tr
    rw [soF_congr m (fun k hk => h k (by omega)), h m (by omega)]
theorem dI_congr {σ σ' : Nat → Nat → Int} {n m : Nat} (hd : dI σ n m) (h : ∀ k, k < m → σ' 48 k = σ 48 k) : dI σ' n m := by
  intro k hk
  have := hd k hk
  unfold tr at this ⊢
  rw [soF_congr k (fun j hj => h j (by omega)), h k hk]
  exact this
theorem dI_push {σ : Nat → Nat → Int} {n v s m : Nat} (hd : dI σ n m) (h : mfF σ v s m = true) (hs : s < n) : dI (zU σ 48 m (s : Int)) n (m + 1) := by
  intro k hk
  by_cases e : k = m
  · subst e
    unfold tr
    rw [zU_self, soF_congr k (fun j hj => zU_nj (by omega))]
    exact ⟨by omega, by omega, by rw [Int.toNat_natCast]; exact dI_free hd h⟩
  · have := dI_congr (σ' := zU σ 48 m (s : Int)) hd (fun j hj => zU_nj (by omega)) k (by omega)
    exact this
theorem dfs_ne {n v h : Nat} (h1 : h ≠ 46) (h2 : h ≠ 47) (h3 : h ≠ 48) (h4 : h ≠ 50) : ∀ (f m c : Nat) (σ : Nat → Nat → Int), dfs n v f m c σ h = σ h := by
  intro f
  induction f with
  | zero => intro m c σ; rw [dfs]
  | succ f ihf =>
    intro m c
    induction c with
    | zero => intro σ; rw [dfs]
    | succ c ihc =>
      intro σ
      rw [dfs]
      split
      · rw [ihc, ihf, kpF_ne h4 h1 h2, zU_ne h3]
      · exact ihc σ
theorem dfs_48 {n v : Nat} : ∀ (f m c : Nat) (σ : Nat → Nat → Int) (k : Nat), k < m → dfs n v f m c σ 48 k = σ 48 k := by
  intro f
  induction f with
  | zero => intro m c σ k hk; rw [dfs]
  | succ f ihf =>
    intro m c
    induction c with
    | zero => intro σ k hk; rw [dfs]
    | succ c ihc =>
      intro σ k hk
      rw [dfs]
      split
      · rw [ihc _ k hk, ihf _ _ _ k (by omega), kpF_ne (by decide) (by decide) (by decide), zU_nj (by omega)]
      · exact ihc σ k hk
theorem dfs_bd {n nv v : Nat} (hn7 : n ≤ 7) (hv : v < 3) : ∀ (f m c : Nat) (σ : Nat → Nat → Int), c ≤ n → dI σ n m → mI σ n nv → bd σ 48 7 0 6 → bd σ 46 384 (-1) 150000 → bd σ 47 384 0 2097151 →
    bd (dfs n v f m c σ) 48 7 0 6 ∧ bd (dfs n v f m c σ) 46 384 (-1) 150000 ∧ bd (dfs n v f m c σ) 47 384 0 2097151 := by
  intro f
  induction f with
  | zero => intro m c σ _ _ _ a b d; rw [dfs]; exact ⟨a, b, d⟩
  | succ f ihf =>
    intro m c
    induction c with
    | zero => intro σ _ _ _ a b d; rw [dfs]; exact ⟨a, b, d⟩
    | succ c ihc =>
      intro σ hc hd hM a b d
      rw [dfs]
      split
      · rename_i hm
        have hx : n - (c + 1) < n := by omega
        have hmn := dI_lt hd hm hx
        have hM1 : mI (zU σ 48 m ((n - (c + 1) : Nat) : Int)) n nv := hM.congr (by rw [zU_ne (by decide)]) (by rw [zU_ne (by decide)]) (fun k k1 k2 => zU_ne (by omega))
        have a1 : bd (zU σ 48 m ((n - (c + 1) : Nat) : Int)) 48 7 0 6 := by
          intro i hi
          by_cases e : i = m
          · subst e; rw [zU_self]; omega
          · rw [zU_nj e]; exact a i hi
        have b1 : bd (zU σ 48 m ((n - (c + 1) : Nat) : Int)) 46 384 (-1) 150000 := by intro i hi; rw [zU_ne (by decide)]; exact b i hi
        have d1 : bd (zU σ 48 m ((n - (c + 1) : Nat) : Int)) 47 384 0 2097151 := by intro i hi; rw [zU_ne (by decide)]; exact d i hi
        have hd1 := dI_push hd hm hx
        have hM2 : mI (kpF (zU σ 48 m ((n - (c + 1) : Nat) : Int)) v (m + 1)) n nv := hM1.congr (by rw [kpF_ne (by decide) (by decide) (by decide)]) (by rw [kpF_ne (by decide) (by decide) (by decide)]) (fun k k1 k2 => kpF_ne (by omega) (by omega) (by omega))
        have hd2 : dI (kpF (zU σ 48 m ((n - (c + 1) : Nat) : Int)) v (m + 1)) n (m + 1) := dI_congr hd1 (fun k _ => by rw [kpF_ne (by decide) (by decide) (by decide)])
        obtain ⟨x1, x2, x3⟩ := ihf (m + 1) n _ (Nat.le_refl n) hd2 hM2 (by intro i hi; rw [kpF_ne (by decide) (by decide) (by decide)]; exact a1 i hi) (kpF_46 hM1 a1 hv (by omega) b1) (kpF_47 a1 (by omega) d1)
        refine ihc _ (by omega) ?_ ?_ x1 x2 x3
        · exact dI_congr hd (fun k hk => by rw [dfs_48 _ _ _ _ _ (by omega), kpF_ne (by decide) (by decide) (by decide), zU_nj (by omega)])
        · exact hM2.congr (by rw [dfs_ne (by decide) (by decide) (by decide) (by decide)]) (by rw [dfs_ne (by decide) (by decide) (by decide) (by decide)]) (fun k k1 k2 => dfs_ne (by omega) (by omega) (by omega) (by omega) _ _ _ _)
      · exact ihc σ (by omega) hd hM a b d
theorem mfF_s {σ : Nat → Nat → Int} {v s k : Nat} : mfF σ v s (k + 1) = true ↔ mfF σ v s k = true ∧ σ 48 k ≠ (s : Int) ∧ σ 39 (7 * tr σ k + s) = 0 ∧ σ 40 (7 * s + tr σ k) = 0 := by
  rw [mfF]; simp only [Bool.and_eq_true, decide_eq_true_eq]
theorem mfF_0 {σ : Nat → Nat → Int} {v s : Nat} : mfF σ v s 0 = true ↔ (σ 38 s = -1 ∨ σ 38 s = (v : Int)) := by
  rw [mfF]; simp only [decide_eq_true_eq]
theorem zB_iff {P Q : Prop} [Decidable P] [Decidable Q] (h : P ↔ Q) : zB P = zB Q := by
  unfold zB
  by_cases hp : P
  · rw [if_pos hp, if_pos (h.mp hp)]
  · rw [if_neg hp, if_neg (fun q => hp (h.mpr q))]
theorem roF_congr {σ σ' : Nat → Nat → Int} : ∀ m, (∀ k, k < m → σ' 48 k = σ 48 k) → roF σ' m = roF σ m
  | 0, _ => rfl
  | m + 1, h => by
    unfold roF tr
    rw [roF_congr m (fun k hk => h k (by omega)), h m (by omega)]
theorem zB01 {P : Prop} [Decidable P] : zB P = 0 ∨ zB P = 1 := by unfold zB; split <;> simp
theorem dfs_push {n nv v m x : Nat} {σ : Nat → Nat → Int} (hn7 : n ≤ 7) (hv : v < 3) (hd : dI σ n m) (hm : mfF σ v x m = true) (hx : x < n) (hM : mI σ n nv) (a : bd σ 48 7 0 6) (b : bd σ 46 384 (-1) 150000) (d : bd σ 47 384 0 2097151) :
    m < n ∧ mI (zU σ 48 m (x : Int)) n nv ∧ bd (zU σ 48 m (x : Int)) 48 7 0 6 ∧ bd (zU σ 48 m (x : Int)) 46 384 (-1) 150000 ∧ dI (kpF (zU σ 48 m (x : Int)) v (m + 1)) n (m + 1) ∧ mI (kpF (zU σ 48 m (x : Int)) v (m + 1)) n nv ∧ bd (kpF (zU σ 48 m (x : Int)) v (m + 1)) 48 7 0 6 ∧ bd (kpF (zU σ 48 m (x : Int)) v (m + 1)) 46 384 (-1) 150000 ∧ bd (kpF (zU σ 48 m (x : Int)) v (m + 1)) 47 384 0 2097151 := by
  have hmn := dI_lt hd hm hx
  have hM1 : mI (zU σ 48 m (x : Int)) n nv := hM.congr (by rw [zU_ne (by decide)]) (by rw [zU_ne (by decide)]) (fun k k1 k2 => zU_ne (by omega))
  have a1 : bd (zU σ 48 m (x : Int)) 48 7 0 6 := by
    intro i hi
    by_cases e : i = m
    · subst e; rw [zU_self]; omega
    · rw [zU_nj e]; exact a i hi
  have b1 : bd (zU σ 48 m (x : Int)) 46 384 (-1) 150000 := by intro i hi; rw [zU_ne (by decide)]; exact b i hi
  have d1 : bd (zU σ 48 m (x : Int)) 47 384 0 2097151 := by intro i hi; rw [zU_ne (by decide)]; exact d i hi
  exact ⟨hmn, hM1, a1, b1, dI_congr (dI_push hd hm hx) (fun k _ => by rw [kpF_ne (by decide) (by decide) (by decide)]), hM1.congr (by rw [kpF_ne (by decide) (by decide) (by decide)]) (by rw [kpF_ne (by decide) (by decide) (by decide)]) (fun k k1 k2 => kpF_ne (by omega) (by omega) (by omega)), fun i hi => by rw [kpF_ne (by decide) (by decide) (by decide)]; exact a1 i hi, kpF_46 hM1 a1 hv (by omega) b1, kpF_47 a1 (by omega) d1⟩
theorem dfs_back {n nv v f m x : Nat} {σ : Nat → Nat → Int} (hn7 : n ≤ 7) (hv : v < 3) (hd : dI σ n m) (hm : mfF σ v x m = true) (hx : x < n) (hM : mI σ n nv) (a : bd σ 48 7 0 6) (b : bd σ 46 384 (-1) 150000) (d : bd σ 47 384 0 2097151) :
    dI (dfs n v f (m + 1) n (kpF (zU σ 48 m (x : Int)) v (m + 1))) n m ∧ mI (dfs n v f (m + 1) n (kpF (zU σ 48 m (x : Int)) v (m + 1))) n nv ∧ dfs n v f (m + 1) n (kpF (zU σ 48 m (x : Int)) v (m + 1)) 48 m = (x : Int) ∧ bd (dfs n v f (m + 1) n (kpF (zU σ 48 m (x : Int)) v (m + 1))) 48 7 0 6 ∧ bd (dfs n v f (m + 1) n (kpF (zU σ 48 m (x : Int)) v (m + 1))) 46 384 (-1) 150000 ∧ bd (dfs n v f (m + 1) n (kpF (zU σ 48 m (x : Int)) v (m + 1))) 47 384 0 2097151 := by
  obtain ⟨-, -, -, -, hd2, hM2, c48, c46, c47⟩ := dfs_push hn7 hv hd hm hx hM a b d
  obtain ⟨x1, x2, x3⟩ := dfs_bd hn7 hv f (m + 1) n _ (Nat.le_refl n) hd2 hM2 c48 c46 c47
  refine ⟨?_, ?_, ?_, x1, x2, x3⟩
  · exact dI_congr hd (fun k hk => by rw [dfs_48 _ _ _ _ _ (by omega), kpF_ne (by decide) (by decide) (by decide), zU_nj (by omega)])
  · exact hM2.congr (by rw [dfs_ne (by decide) (by decide) (by decide) (by decide)]) (by rw [dfs_ne (by decide) (by decide) (by decide) (by decide)]) (fun k k1 k2 => dfs_ne (by omega) (by omega) (by omega) (by omega) _ _ _ _)
  · rw [dfs_48 _ _ _ _ _ (by omega), kpF_ne (by decide) (by decide) (by decide), zU_self]
