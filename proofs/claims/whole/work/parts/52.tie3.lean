/-! THE REFERENCE'S SEARCH, as lists -/
section Run
variable (Wy : Nat → Nat → Int) (F La Sv : Nat → Int)
def rn : List Nat → Int → Nat → Option (Int × Nat)
  | [], t, p => some (t, p)
  | s :: r, t, p => (stp F La Sv s (t + Wy p s)).bind fun t' => rn r t' s
theorem fwd_rn : ∀ (q : List Nat) (t : Int) (p : Nat), fwd Wy F La Sv q t p = (rn Wy F La Sv q t p).map (fun x => x.1 + Wy x.2 7)
  | [], t, p => rfl
  | s :: r, t, p => by
    rw [show fwd Wy F La Sv (s :: r) t p = (stp F La Sv s (t + Wy p s)).bind (fun t' => fwd Wy F La Sv r t' s) from rfl, show rn Wy F La Sv (s :: r) t p = (stp F La Sv s (t + Wy p s)).bind (fun t' => rn Wy F La Sv r t' s) from rfl]
    cases stp F La Sv s (t + Wy p s) with
    | none => rfl
    | some t' => exact fwd_rn r t' s
theorem rn_app : ∀ (q r : List Nat) (t : Int) (p : Nat), rn Wy F La Sv (q ++ r) t p = (rn Wy F La Sv q t p).bind (fun x => rn Wy F La Sv r x.1 x.2)
  | [], r, t, p => rfl
  | s :: q, r, t, p => by
    rw [List.cons_append, show rn Wy F La Sv (s :: (q ++ r)) t p = (stp F La Sv s (t + Wy p s)).bind (fun t' => rn Wy F La Sv (q ++ r) t' s) from rfl, show rn Wy F La Sv (s :: q) t p = (stp F La Sv s (t + Wy p s)).bind (fun t' => rn Wy F La Sv q t' s) from rfl]
    cases stp F La Sv s (t + Wy p s) with
    | none => rfl
    | some t' => exact rn_app q r t' s
end Run
def wyM (σ : Nat → Nat → Int) (a b : Nat) : Int := σ 45 (8 * a + b)
def ldM (σ : Nat → Nat → Int) : List Nat → Int
  | [] => 0
  | s :: r => σ 33 s + ldM σ r
theorem ldM_app {σ : Nat → Nat → Int} : ∀ (q r : List Nat), ldM σ (q ++ r) = ldM σ q + ldM σ r
  | [], r => by simp [ldM]
  | s :: q, r => by rw [List.cons_append, ldM, ldM, ldM_app q r]; omega
def vlM (σ : Nat → Nat → Int) (v : Nat) (q : List Nat) : Int := match fwd (wyM σ) (σ 34) (σ 35) (σ 36) q (σ 42 v) 7 with
  | none => -1
  | some b => if b ≤ σ 43 v ∧ ldM σ q ≤ σ 41 v then b else -1
def trL (σ : Nat → Nat → Int) (m : Nat) : List Nat := (List.range m).map (tr σ)
theorem trL_s {σ : Nat → Nat → Int} {m : Nat} : trL σ (m + 1) = trL σ m ++ [tr σ m] := by
  unfold trL; rw [List.range_succ, List.map_append]; rfl
theorem trL_mem {σ : Nat → Nat → Int} {m x : Nat} : x ∈ trL σ m ↔ ∃ k, k < m ∧ tr σ k = x := by
  unfold trL; simp
theorem drK_rn {σ : Nat → Nat → Int} {v : Nat} : ∀ m, drK σ v m = (rn (wyM σ) (σ 34) (σ 35) (σ 36) (trL σ m) (σ 42 v) 7).map (fun q => (q.1, q.2, ldM σ (trL σ m)))
  | 0 => rfl
  | m + 1 => by
    have ih := drK_rn (σ := σ) (v := v) m
    rw [trL_s, rn_app, drK, ih]
    cases rn (wyM σ) (σ 34) (σ 35) (σ 36) (trL σ m) (σ 42 v) 7 with
    | none => rfl
    | some x =>
      simp only [Option.map_some, Option.bind_some, rn, stp]
      unfold wyM
      by_cases h : σ 35 (tr σ m) < x.1 + σ 45 (8 * x.2 + tr σ m)
      · rw [if_pos h, if_pos h]; rfl
      · rw [if_neg h, if_neg h]
        simp only [Option.bind_some, Option.map_some, rn]
        rw [ldM_app]
        simp [ldM]
theorem drR_vl {σ : Nat → Nat → Int} {v m : Nat} : drR σ v m = vlM σ v (trL σ m) := by
  unfold drR vlM
  rw [drK_rn, fwd_rn]
  cases rn (wyM σ) (σ 34) (σ 35) (σ 36) (trL σ m) (σ 42 v) 7 with
  | none => rfl
  | some x => rfl
theorem soF_ls {σ : Nat → Nat → Int} : ∀ m, soF σ m = lset (trL σ m)
  | 0 => rfl
  | m + 1 => by
    rw [soF, soF_ls m, trL_s]
    apply Nat.eq_of_testBit_eq
    intro i
    rw [wi_bit, Bool.eq_iff_iff, lset_mem]
    simp only [Bool.or_eq_true, decide_eq_true_eq, List.mem_append, List.mem_singleton, lset_mem]
    constructor
    · rintro (h | h)
      · exact Or.inl h
      · exact Or.inr h.symm
    · rintro (h | h)
      · exact Or.inl h
      · exact Or.inr h.symm
/-- a row as the reference's number -/
def rwc : List Nat → Nat
  | [] => 0
  | s :: r => s + 8 * rwc r
theorem rwc_app : ∀ (q : List Nat) (x : Nat), rwc (q ++ [x]) = rwc q + 2 ^ (3 * q.length) * x
  | [], x => by simp [rwc]
  | s :: q, x => by
    rw [List.cons_append, rwc, rwc, rwc_app q x, List.length_cons, show 3 * (q.length + 1) = 3 + 3 * q.length by omega, Nat.pow_add, Nat.mul_add, Nat.mul_assoc]
    omega
theorem roF_rwc {σ : Nat → Nat → Int} (h48 : bd σ 48 7 0 6) : ∀ m, m ≤ 7 → roF σ m = rwc (trL σ m)
  | 0, _ => rfl
  | m + 1, hm => by
    rw [roF_s h48 (by omega), trL_s, rwc_app, roF_rwc h48 m (by omega)]
    unfold trL
    rw [List.length_map, List.length_range]
    omega
theorem rwc_d8 : ∀ (q : List Nat), (∀ x ∈ q, x < 8) → ∀ k, d8 (rwc q) k = q.getD k 0
  | [], _, k => by unfold d8; simp [rwc]
  | s :: q, h, k => by
    have hs := h s List.mem_cons_self
    cases k with
    | zero =>
      unfold d8
      simp only [rwc, Nat.mul_zero, Nat.pow_zero, Nat.div_one, List.getD_cons_zero]
      omega
    | succ k =>
      rw [List.getD_cons_succ, ← rwc_d8 q (fun x hx => h x (List.mem_cons_of_mem _ hx)) k]
      unfold d8
      rw [rwc, show 3 * (k + 1) = 3 + 3 * k by omega, Nat.pow_add, ← Nat.div_div_eq_div_mul, show (s + 8 * rwc q) / 2 ^ 3 = rwc q by omega]
/-- may x follow the row t -/
def pm (σ : Nat → Nat → Int) (v : Nat) (t : List Nat) (x : Nat) : Bool := decide (σ 38 x = -1 ∨ σ 38 x = (v : Int)) && t.all (fun y => decide (y ≠ x ∧ σ 39 (7 * y + x) = 0 ∧ σ 40 (7 * x + y) = 0))
theorem mfF_pm {σ : Nat → Nat → Int} {v x : Nat} : ∀ m, (∀ k, k < m → 0 ≤ σ 48 k) → mfF σ v x m = pm σ v (trL σ m) x
  | 0, _ => by unfold mfF pm trL; simp
  | m + 1, h => by
    have hm := h m (by omega)
    have e : (σ 48 m ≠ (x : Int)) ↔ tr σ m ≠ x := by unfold tr; omega
    rw [mfF, mfF_pm m (fun k hk => h k (by omega)), trL_s]
    unfold pm
    rw [List.all_append, Bool.and_assoc]
    simp only [List.all_cons, List.all_nil, Bool.and_true, e]
/-- the rows that the search visits, in its order -/
def En (σ : Nat → Nat → Int) (n v : Nat) : Nat → List Nat → Nat → List (List Nat)
  | 0, _, _ => []
  | _ + 1, _, 0 => []
  | f + 1, t, c + 1 => if pm σ v t (n - (c + 1)) = true then (t ++ [n - (c + 1)]) :: (En σ n v f (t ++ [n - (c + 1)]) n ++ En σ n v (f + 1) t c) else En σ n v (f + 1) t c
termination_by f _ c => (f, c)
/-- keep, of the set S -/
def kq (σ : Nat → Nat → Int) (v S : Nat) (a : Int × List Nat) (q : List Nat) : Int × List Nat := if lset q = S ∧ 0 ≤ vlM σ v q ∧ (a.1 < 0 ∨ vlM σ v q < a.1) then (vlM σ v q, q) else a
theorem vlM_congr {σ τ : Nat → Nat → Int} {v : Nat} {q : List Nat} (h : ∀ k, 33 ≤ k → k ≤ 45 → τ k = σ k) : vlM τ v q = vlM σ v q := by
  have e : ∀ q, ldM τ q = ldM σ q := by
    intro q
    induction q with
    | nil => rfl
    | cons s r ih => rw [ldM, ldM, ih, h 33 (by decide) (by decide)]
  have ew : wyM τ = wyM σ := by funext a b; unfold wyM; rw [h 45 (by decide) (by decide)]
  unfold vlM
  rw [e, ew, h 34 (by decide) (by decide), h 35 (by decide) (by decide), h 36 (by decide) (by decide), h 41 (by decide) (by decide), h 42 (by decide) (by decide), h 43 (by decide) (by decide)]
theorem pm_congr {σ τ : Nat → Nat → Int} {v x : Nat} {t : List Nat} (h : ∀ k, 33 ≤ k → k ≤ 45 → τ k = σ k) : pm τ v t x = pm σ v t x := by
  unfold pm; rw [h 38 (by decide) (by decide), h 39 (by decide) (by decide), h 40 (by decide) (by decide)]
theorem kpF_kq {σ τ : Nat → Nat → Int} {v m S : Nat} {a : Int × List Nat} (hτ : ∀ k, 33 ≤ k → k ≤ 45 → τ k = σ k) (h48 : bd τ 48 7 0 6) (hm : m ≤ 7) (h1 : τ 46 (128 * v + S) = a.1) (h2 : 0 ≤ a.1 → τ 47 (128 * v + S) = ((rwc a.2 : Nat) : Int)) :
    kpF τ v m 46 (128 * v + S) = (kq σ v S a (trL τ m)).1 ∧ (0 ≤ (kq σ v S a (trL τ m)).1 → kpF τ v m 47 (128 * v + S) = ((rwc (kq σ v S a (trL τ m)).2 : Nat) : Int)) := by
  have ev : drR τ v m = vlM σ v (trL τ m) := by rw [drR_vl, vlM_congr hτ]
  unfold kpF kq
  rw [ev, soF_ls, roF_rwc h48 m hm]
  by_cases hS : lset (trL τ m) = S
  · subst hS
    rw [h1]
    by_cases hc : 0 ≤ vlM σ v (trL τ m) ∧ (a.1 < 0 ∨ vlM σ v (trL τ m) < a.1)
    · rw [if_pos hc, if_pos ⟨rfl, hc⟩, zU_ne (by decide), zU_self, zU_self]
      exact ⟨rfl, fun _ => rfl⟩
    · rw [if_neg hc, if_neg (fun z => hc z.2), dbK_ne (by decide), dbK_ne (by decide)]
      exact ⟨h1, h2⟩
  · rw [if_neg (show ¬ (lset (trL τ m) = S ∧ 0 ≤ vlM σ v (trL τ m) ∧ (a.1 < 0 ∨ vlM σ v (trL τ m) < a.1)) from fun z => hS z.1)]
    have hne : 128 * v + S ≠ 128 * v + lset (trL τ m) := by omega
    split
    · rw [zU_ne (k' := 46) (by decide), zU_nj hne, zU_nj hne, zU_ne (k' := 47) (by decide), dbK_ne (by decide), dbK_ne (by decide)]
      exact ⟨h1, h2⟩
    · rw [dbK_ne (by decide), dbK_ne (by decide)]
      exact ⟨h1, h2⟩
theorem trL_push {τ : Nat → Nat → Int} {m x : Nat} : trL (zU τ 48 m (x : Int)) (m + 1) = trL τ m ++ [x] := by
  rw [trL_s]
  have e1 : tr (zU τ 48 m (x : Int)) m = x := by unfold tr; rw [zU_self, Int.toNat_natCast]
  rw [e1]
  congr 1
  unfold trL
  refine List.map_congr_left (fun k hk => ?_)
  unfold tr
  rw [zU_nj (by have := List.mem_range.mp hk; omega)]
theorem trL_congr {τ τ' : Nat → Nat → Int} {m : Nat} (h : ∀ k, k < m → τ' 48 k = τ 48 k) : trL τ' m = trL τ m := by
  unfold trL
  refine List.map_congr_left (fun k hk => ?_)
  unfold tr
  rw [h k (List.mem_range.mp hk)]
/-- the search's tables are the fold over the rows -/
theorem dfs_fold {σ : Nat → Nat → Int} {n nv v S : Nat} (hn7 : n ≤ 7) (hv : v < 3) : ∀ (f m c : Nat) (τ : Nat → Nat → Int) (a : Int × List Nat), c ≤ n → dI τ n m → mI τ n nv → bd τ 48 7 0 6 → bd τ 46 384 (-1) 150000 → bd τ 47 384 0 2097151 → (∀ k, 33 ≤ k → k ≤ 45 → τ k = σ k) → τ 46 (128 * v + S) = a.1 → (0 ≤ a.1 → τ 47 (128 * v + S) = ((rwc a.2 : Nat) : Int)) →
    dfs n v f m c τ 46 (128 * v + S) = ((En σ n v f (trL τ m) c).foldl (kq σ v S) a).1 ∧ (0 ≤ ((En σ n v f (trL τ m) c).foldl (kq σ v S) a).1 → dfs n v f m c τ 47 (128 * v + S) = ((rwc ((En σ n v f (trL τ m) c).foldl (kq σ v S) a).2 : Nat) : Int)) := by
  intro f
  induction f with
  | zero => intro m c τ a _ _ _ _ _ _ _ h1 h2; rw [dfs, En]; exact ⟨h1, h2⟩
  | succ f ihf =>
    intro m c
    induction c with
    | zero => intro τ a _ _ _ _ _ _ _ h1 h2; rw [dfs, En]; exact ⟨h1, h2⟩
    | succ c ihc =>
      intro τ a hc hd hM b48 b46 b47 hτ h1 h2
      have hpm : mfF τ v (n - (c + 1)) m = pm σ v (trL τ m) (n - (c + 1)) := by
        rw [mfF_pm m (fun k hk => (hd k hk).1), pm_congr hτ]
      rw [dfs, En, hpm]
      split
      · rename_i hp
        have hm : mfF τ v (n - (c + 1)) m = true := by rw [hpm]; exact hp
        have hx : n - (c + 1) < n := by omega
        obtain ⟨hmn, hM1, a48, a46, hd2, hM2, c48, c46, c47⟩ := dfs_push hn7 hv hd hm hx hM b48 b46 b47
        obtain ⟨hd3, hM3, hT3, e48, e46, e47⟩ := dfs_back (f := f) hn7 hv hd hm hx hM b48 b46 b47
        have hτ1 : ∀ k, 33 ≤ k → k ≤ 45 → zU τ 48 m ((n - (c + 1) : Nat) : Int) k = σ k := fun k k1 k2 => by rw [zU_ne (by omega)]; exact hτ k k1 k2
        have hk := kpF_kq (σ := σ) (S := S) (a := a) (m := m + 1) (v := v) hτ1 a48 (by omega) (by rw [zU_ne (by decide)]; exact h1) (by rw [zU_ne (by decide)]; exact h2)
        rw [trL_push] at hk
        have hτ2 : ∀ k, 33 ≤ k → k ≤ 45 → kpF (zU τ 48 m ((n - (c + 1) : Nat) : Int)) v (m + 1) k = σ k := fun k k1 k2 => by rw [kpF_ne (by omega) (by omega) (by omega)]; exact hτ1 k k1 k2
        have h3 := ihf (m + 1) n _ (kq σ v S a (trL τ m ++ [n - (c + 1)])) (Nat.le_refl n) hd2 hM2 c48 c46 c47 hτ2 hk.1 hk.2
        have e2 : trL (kpF (zU τ 48 m ((n - (c + 1) : Nat) : Int)) v (m + 1)) (m + 1) = trL τ m ++ [n - (c + 1)] := by
          rw [← trL_push]; exact trL_congr (fun k _ => by rw [kpF_ne (by decide) (by decide) (by decide)])
        rw [e2] at h3
        have e3 : trL (dfs n v f (m + 1) n (kpF (zU τ 48 m ((n - (c + 1) : Nat) : Int)) v (m + 1))) m = trL τ m := trL_congr (fun k hk => by rw [dfs_48 _ _ _ _ _ (by omega), kpF_ne (by decide) (by decide) (by decide), zU_nj (by omega)])
        have h4 := ihc _ _ (by omega) hd3 hM3 e48 e46 e47 (fun k k1 k2 => by rw [dfs_ne (by omega) (by omega) (by omega) (by omega)]; exact hτ2 k k1 k2) h3.1 h3.2
        rw [e3] at h4
        rw [List.foldl_cons, List.foldl_append]
        exact h4
      · exact ihc τ a (by omega) hd hM b48 b46 b47 hτ h1 h2
