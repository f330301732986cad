/-! THE TABLES AFTER ALL VEHICLES -/
theorem En_congr {σ τ : Nat → Nat → Int} {n v : Nat} (h : ∀ k, 33 ≤ k → k ≤ 45 → τ k = σ k) : ∀ (f : Nat) (t : List Nat) (c : Nat), En τ n v f t c = En σ n v f t c := by
  intro f
  induction f with
  | zero => intro t c; rw [En, En]
  | succ f ihf =>
    intro t c
    induction c with
    | zero => rw [En, En]
    | succ c ihc => rw [En, En, pm_congr h, ihf, ihc]
theorem best_congr {σ τ : Nat → Nat → Int} {n v S : Nat} (h : ∀ k, 33 ≤ k → k ≤ 45 → τ k = σ k) : bestM τ n v S = bestM σ n v S := by
  have e : kq τ v S = kq σ v S := by
    funext a q
    unfold kq
    rw [vlM_congr h]
  unfold bestM
  rw [En_congr h, e]
theorem kpF_out {τ : Nat → Nat → Int} {v m i : Nat} (h48 : bd τ 48 7 0 6) (hm : m ≤ 7) (hi : i < 128 * v ∨ 128 * v + 128 ≤ i) : kpF τ v m 46 i = τ 46 i ∧ kpF τ v m 47 i = τ 47 i := by
  have hs := soF_128 h48 m hm
  unfold kpF
  split
  · rw [zU_ne (k' := 46) (by decide), zU_nj (by omega), zU_nj (by omega), zU_ne (k' := 47) (by decide), dbK_ne (by decide), dbK_ne (by decide)]
    exact ⟨rfl, rfl⟩
  · rw [dbK_ne (by decide), dbK_ne (by decide)]
    exact ⟨rfl, rfl⟩
theorem dfs_out {n nv v i : Nat} (hn7 : n ≤ 7) (hv : v < 3) (hi : i < 128 * v ∨ 128 * v + 128 ≤ i) : ∀ (f m c : Nat) (τ : Nat → Nat → Int), c ≤ n → dI τ n m → mI τ n nv → bd τ 48 7 0 6 → bd τ 46 384 (-1) 150000 → bd τ 47 384 0 2097151 → dfs n v f m c τ 46 i = τ 46 i ∧ dfs n v f m c τ 47 i = τ 47 i := by
  intro f
  induction f with
  | zero => intro m c τ _ _ _ _ _ _; rw [dfs]; exact ⟨rfl, rfl⟩
  | succ f ihf =>
    intro m c
    induction c with
    | zero => intro τ _ _ _ _ _ _; rw [dfs]; exact ⟨rfl, rfl⟩
    | succ c ihc =>
      intro τ hc hd hM b48 b46 b47
      rw [dfs]
      split
      · rename_i hm
        have hx : n - (c + 1) < n := by omega
        obtain ⟨hmn, hM1, a48, a46, hd2, hM2, c48, c46, c47⟩ := dfs_push hn7 hv hd hm hx hM b48 b46 b47
        obtain ⟨hd3, hM3, hT3, e48, e46, e47⟩ := dfs_back (f := f) hn7 hv hd hm hx hM b48 b46 b47
        obtain ⟨x1, x2⟩ := ihc _ (by omega) hd3 hM3 e48 e46 e47
        obtain ⟨y1, y2⟩ := ihf (m + 1) n _ (Nat.le_refl n) hd2 hM2 c48 c46 c47
        obtain ⟨z1, z2⟩ := kpF_out (v := v) (m := m + 1) (i := i) a48 (by omega) hi
        rw [x1, x2, y1, y2, z1, z2, zU_ne (k' := 46) (by decide), zU_ne (k' := 47) (by decide)]
        exact ⟨rfl, rfl⟩
      · exact ihc τ (by omega) hd hM b48 b46 b47
theorem erF_in {σ : Nat → Nat → Int} {v S : Nat} : ∀ j, S < j → erF σ v j 46 (128 * v + S) = -1
  | 0, h => by omega
  | j + 1, h => by
    unfold erF
    by_cases e : S = j
    · subst e; rw [zU_self]
    · rw [zU_nj (by omega)]; exact erF_in j (by omega)
theorem erF_out {σ : Nat → Nat → Int} {v i : Nat} : ∀ j, j ≤ 128 → (i < 128 * v ∨ 128 * v + 128 ≤ i) → erF σ v j 46 i = σ 46 i
  | 0, _, _ => rfl
  | j + 1, hj, h => by unfold erF; rw [zU_nj (by omega)]; exact erF_out j (by omega) h
/-- early and rows, after the reference's search -/
theorem da_tab {σ : Nat → Nat → Int} {n nv : Nat} (hM : mI σ n nv) (a : bd σ 48 7 0 6) (b : bd σ 46 384 (-1) 150000) (d : bd σ 47 384 0 2097151) (w : rwI σ) {v S : Nat} (hv : v < 3) (hS : S < 128) : ∀ x, x ≤ 3 → v < x → daF σ n x 46 (128 * v + S) = (bestM σ n v S).1 ∧ (0 ≤ (bestM σ n v S).1 → daF σ n x 47 (128 * v + S) = ((rwc (bestM σ n v S).2 : Nat) : Int)) := by
  intro x
  induction x with
  | zero => intro _ h; omega
  | succ x ih =>
    intro hx hvx
    obtain ⟨x1, x2, x3, x4, x5⟩ := daF_all hM a b d w x (by omega)
    have y1 : mI (erF (daF σ n x) x 128) n nv := x1.congr (by rw [erF_ne (by decide)]) (by rw [erF_ne (by decide)]) (fun k k1 k2 => erF_ne (by omega) 128)
    have y2 : bd (erF (daF σ n x) x 128) 48 7 0 6 := by intro i hi; rw [erF_ne (by decide)]; exact x2 i hi
    have y4 : bd (erF (daF σ n x) x 128) 47 384 0 2097151 := by intro i hi; rw [erF_ne (by decide)]; exact x4 i hi
    have y0 : dI (erF (daF σ n x) x 128) n 0 := fun k hk => absurd hk (by omega)
    have hd : ∀ k, 33 ≤ k → k ≤ 45 → erF (daF σ n x) x 128 k = σ k := fun k k1 k2 => by rw [erF_ne (by omega), daF_ne (by omega) (by omega) (by omega) (by omega)]
    unfold daF
    by_cases e : v = x
    · subst e
      have h := dfs_fold (σ := σ) (S := S) hM.2.1 hv (n + 1) 0 n _ (-1, []) (Nat.le_refl n) y0 y1 y2 (erF_46 x3 128) y4 hd (erF_in 128 hS) (fun z => absurd z (by decide))
      exact h
    · obtain ⟨z1, z2⟩ := dfs_out (i := 128 * v + S) hM.2.1 (show x < 3 by omega) (by omega) (n + 1) 0 n _ (Nat.le_refl n) y0 y1 y2 (erF_46 x3 128) y4
      rw [z1, z2, erF_out 128 (Nat.le_refl _) (by omega), erF_ne (h := 47) (by decide)]
      exact ih (by omega) (by omega)
/-- backs, after the class's search -/
theorem bkI_out {σ : Nat → Nat → Int} {n v i : Nat} (hi : i < v * 128 ∨ v * 128 + 128 ≤ i) : ∀ j, j < 128 → bkI σ n v j 18 i = σ 18 i
  | 0, _ => rfl
  | j + 1, hj => by
    unfold bkI
    split
    · rw [zU_nj (by omega), fbS_ne (by decide)]; exact bkI_out hi j (by omega)
    · rw [zU_nj (by omega)]; exact bkI_out hi j (by omega)
theorem bk_tab {σ : Nat → Nat → Int} {n nv : Nat} (h : TT σ n nv) {v S : Nat} (hv : v < nv) (h0 : 0 < S) (hS : S < 2 ^ n) : ∀ x, x ≤ 3 → v < x →
    ((bestM σ n v S).1 = -1 ∧ bkO σ n x 18 (v * 128 + S) = NV) ∨ (0 ≤ (bestM σ n v S).1 ∧ bkO σ n x 18 (v * 128 + S) = (bestM σ n v S).1 ∧ (bestM σ n v S).1 < NV ∧ σ 13 v ≤ (bestM σ n v S).1 ∧ (bestM σ n v S).1 ≤ σ 14 v ∧ mayB σ n v S = true ∧ vld n (ahS σ) (bestM σ n v S).2 ∧ (bestM σ n v S).2 ≠ [] ∧ lset (bestM σ n v S).2 = S ∧ fwd (wyS σ) (σ 3) (σ 4) (σ 5) (bestM σ n v S).2 (σ 13 v) 7 = some (bestM σ n v S).1 ∧
      ∀ q, vld n (ahS σ) q → lset q = S → fwd (wyS σ) (σ 3) (σ 4) (σ 5) q (σ 13 v) 7 = some (bestM σ n v S).1 → lexLe (bestM σ n v S).2 q) := by
  intro x
  have hp := pow_n h.1.2.1
  induction x with
  | zero => intro _ z; omega
  | succ x ih =>
    intro hx hvx
    by_cases e : v = x
    · subst e
      have h' : TT (bkO σ n v) n nv := h.congr (fun k hk => bkO_ne (by omega) (by omega) v) (by rw [bkO_ne (by decide) (by decide)]) (by rw [bkO_ne (by decide) (by decide)]) (fun k k1 k2 => bkO_ne (by omega) (by omega) v)
      have hb := best_tie h' hv h0 hS
      have ee : bestM (bkO σ n v) n v S = bestM σ n v S := best_congr (fun k k1 k2 => bkO_ne (by omega) (by omega) v)
      have ew : wyS (bkO σ n v) = wyS σ := by funext a b; unfold wyS; rw [bkO_ne (by decide) (by decide)]
      have ea : ahS (bkO σ n v) = ahS σ := by funext i; show (bkO σ n v 9 i).toNat = _; rw [bkO_ne (by decide) (by decide)]
      have em : mayB (bkO σ n v) n v S = mayB σ n v S := mayB_congr (bkO_ne (by decide) (by decide) v) (bkO_ne (by decide) (by decide) v) (bkO_ne (by decide) (by decide) v) (bkO_ne (by decide) (by decide) v)
      rw [ee, ew, ea, em, bkO_ne (k := 3) (by decide) (by decide), bkO_ne (k := 4) (by decide) (by decide), bkO_ne (k := 5) (by decide) (by decide), bkO_ne (k := 13) (by decide) (by decide), bkO_ne (k := 14) (by decide) (by decide)] at hb
      unfold bkO
      rcases hb with hb | ⟨b1, b2, b3, b4⟩
      · exact Or.inl hb
      · exact Or.inr ⟨b1, b2.symm, by omega, b4⟩
    · unfold bkO
      rw [bkI_out (by omega) _ (by omega)]
      exact ih (by omega) (by omega)
