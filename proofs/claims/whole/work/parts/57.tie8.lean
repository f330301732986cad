/-! PLANS: the class's prices -/
theorem fpI_in {τ : Nat → Nat → Int} {n S v : Nat} : ∀ x, v < x → S < 128 → fpI τ n S x 22 (v * 128 + S) = fpr τ n v S
  | 0, h, _ => by omega
  | x + 1, h, hS => by
    unfold fpI
    by_cases e : v = x
    · subst e; rw [zU_self]
    · rw [zU_nj (by omega)]; exact fpI_in x (by omega) hS
theorem fpI_out {τ : Nat → Nat → Int} {n S S' v : Nat} (hS : S < 128) (hS' : S' < 128) (h : S' ≠ S) : ∀ x, fpI τ n S x 22 (v * 128 + S') = τ 22 (v * 128 + S')
  | 0 => rfl
  | x + 1 => by unfold fpI; rw [zU_nj (by omega)]; exact fpI_out hS hS' h x
theorem fp_22 {τ : Nat → Nat → Int} {n nv S v : Nat} (h0 : 0 < S) (hv : v < nv) : ∀ j, j < 128 → S ≤ j → fpO τ n nv j 22 (v * 128 + S) = fpr τ n v S := by
  intro j
  induction j with
  | zero => intro _ h; omega
  | succ j ih =>
    intro hj hSj
    unfold fpO
    by_cases e : S = j + 1
    · subst e
      rw [fpI_in nv hv hj]
      exact fpr_congr (by rw [zU_ne (by decide), fpO_ne (by decide) (by decide)]) (by rw [zU_ne (by decide), fpO_ne (by decide) (by decide)]) (by rw [zU_ne (by decide), fpO_ne (by decide) (by decide)])
    · rw [fpI_out hj (by omega) e, zU_ne (by decide)]
      exact ih (by omega) (by omega)
theorem fp_23 {τ : Nat → Nat → Int} {n nv S : Nat} : ∀ j, (0 < S → S ≤ j → fpO τ n nv j 23 S = fsk τ n S) ∧ (S = 0 → fpO τ n nv j 23 S = τ 23 0) := by
  intro j
  induction j with
  | zero => exact ⟨fun a b => by omega, fun a => by subst a; rfl⟩
  | succ j ih =>
    refine ⟨fun h0 hSj => ?_, fun h0 => ?_⟩
    · unfold fpO
      rw [fpI_ne (by decide)]
      by_cases e : S = j + 1
      · subst e; rw [zU_self]
      · rw [zU_nj e]; exact ih.1 h0 (by omega)
    · unfold fpO
      rw [fpI_ne (by decide), zU_nj (by omega)]
      exact ih.2 h0
/-- the vehicles that drive, the last first -/
def vlL (r : Int) : Nat → List Nat
  | 0 => []
  | v + 1 => if (v : Int) = r then vlL r v else v :: vlL r v
theorem vlL_mem {r : Int} {x : Nat} : ∀ v, x ∈ vlL r v ↔ x < v ∧ (x : Int) ≠ r
  | 0 => by simp [vlL]
  | v + 1 => by
    unfold vlL
    split
    · rename_i h
      rw [vlL_mem v]
      constructor
      · rintro ⟨a, b⟩; exact ⟨by omega, b⟩
      · rintro ⟨a, b⟩; exact ⟨by
          by_cases e : x = v
          · subst e; exact absurd h b
          · omega, b⟩
    · rename_i h
      rw [List.mem_cons, vlL_mem v]
      constructor
      · rintro (rfl | ⟨a, b⟩)
        · exact ⟨by omega, h⟩
        · exact ⟨by omega, b⟩
      · rintro ⟨a, b⟩
        by_cases e : x = v
        · exact Or.inl e
        · exact Or.inr ⟨by omega, b⟩
theorem vlL_nd {r : Int} : ∀ v, (vlL r v).Nodup
  | 0 => List.nodup_nil
  | v + 1 => by
    unfold vlL
    split
    · exact vlL_nd v
    · rw [List.nodup_cons]
      exact ⟨fun h => by have := ((vlL_mem v).mp h).1; omega, vlL_nd v⟩
theorem ch_ls {τ : Nat → Nat → Int} {a : Nat} {r : Int} (ha : a < 128) : ∀ v S, S ≤ a → chV τ a r v 24 S = lsV (fun v P => τ 22 (v * 128 + P)) (τ 23) (vlL r v) S
  | 0, S, hS => by
    unfold chV cp0 vlL lsV
    rw [zUA_self, if_pos (by omega)]
  | v + 1, S, hS => by
    have ih := ch_ls (τ := τ) (r := r) ha v
    unfold chV vlL
    by_cases e : (v : Int) = r
    · rw [if_pos e, if_pos e]; exact ih S hS
    · rw [if_neg e, if_neg e]
      unfold arS lsV
      rw [zUA_self]
      by_cases h0 : S = 0
      · subst h0; rw [if_neg (by omega)]; exact ih 0 hS
      · rw [if_pos ⟨by omega, hS⟩]
        unfold lwG
        rw [show chV τ a r v 22 = τ 22 from chV_ne (by decide) v, ih S hS]
        exact lwF_congr (fun x hx => ih x (by omega)) S S _ (Nat.le_refl S)
/-! codes -/
def wk (P : Nat → Bool) (g : Nat → Nat) : Nat → Nat
  | 0 => 0
  | k + 1 => if P k = true then wk P g k + g k * 2 ^ (2 * (6 - k)) else wk P g k
theorem wk_full (p : Nat) (hp : p < 16384) : wk (fun _ => true) (dg p) 7 = p := by
  show 0 + p / 4096 % 4 * 4096 + p / 1024 % 4 * 1024 + p / 256 % 4 * 256 + p / 64 % 4 * 64 + p / 16 % 4 * 16 + p / 4 % 4 * 4 + p / 1 % 4 * 1 = p
  omega
def SjB (p j : Nat) : Nat → Bool := fun i => decide (dg p i < j ∨ dg p i = 3)
def Sj (p n j : Nat) : Nat := bts (SjB p j) n
theorem coG_congr {S S' : Nat} : ∀ k, (∀ i, i < k → S.testBit i = S'.testBit i) → coG S k = coG S' k
  | 0, _ => rfl
  | k + 1, h => by rw [coG, coG, coG_congr k (fun i hi => h i (by omega)), h k (by omega)]
theorem wk_step {p j : Nat} (hj : j < 3) : ∀ k, k ≤ 7 → ∀ S, (∀ i, i < k → S.testBit i = decide (dg p i = j)) → wk (SjB p (j + 1)) (dg p) k = wk (SjB p j) (dg p) k + j * coG S k
  | 0, _, _, _ => by simp [wk, coG]
  | k + 1, hk, S, hS => by
    have ih := wk_step (p := p) hj k (by omega) S (fun i hi => hS i (by omega))
    have hd : dg p k < 4 := Nat.mod_lt _ (by decide)
    have hb := hS k (by omega)
    rw [wk, wk, coG, ih, hb]
    unfold SjB
    simp only [decide_eq_true_eq]
    by_cases e : dg p k = j
    · rw [if_pos (by omega), if_neg (by omega), if_pos e, e, Nat.mul_add]
      omega
    · by_cases e2 : dg p k < j ∨ dg p k = 3
      · rw [if_pos (by omega), if_pos e2, if_neg e]; omega
      · rw [if_neg (by omega), if_neg e2, if_neg e]
theorem wk_3 {p : Nat} : ∀ k, ∀ S, (∀ i, i < k → S.testBit i = decide (dg p i = 3)) → wk (SjB p 0) (dg p) k = 3 * coG S k
  | 0, _, _ => rfl
  | k + 1, S, hS => by
    have ih := wk_3 (p := p) k S (fun i hi => hS i (by omega))
    rw [wk, coG, ih, hS k (by omega)]
    unfold SjB
    simp only [decide_eq_true_eq]
    by_cases e : dg p k = 3
    · rw [if_pos (Or.inr e), if_pos e, e, Nat.mul_add]
    · rw [if_neg (by omega), if_neg e]
theorem wk_true {p n nv : Nat} (hn : n ≤ 7) : ∀ k, k ≤ 7 → vlF n nv p k = true → wk (fun _ => true) (dg p) k = wk (SjB p nv) (dg p) (min k n) ∧ ∀ i, i < k → i < n → dg p i = 3 ∨ dg p i < nv
  | 0, _, _ => ⟨by simp [wk], fun i hi => by omega⟩
  | k + 1, hk, h => by
    rw [vlF] at h
    simp only [Bool.and_eq_true, decide_eq_true_eq] at h
    obtain ⟨ih1, ih2⟩ := wk_true hn k (by omega) h.1
    have hd : dg p k < 4 := Nat.mod_lt _ (by decide)
    refine ⟨?_, fun i hi hin => ?_⟩
    · rw [wk, if_pos rfl, ih1]
      by_cases hkn : k < n
      · have hv := h.2.2 hkn
        rw [Nat.min_eq_left (show k ≤ n by omega), Nat.min_eq_left (show k + 1 ≤ n by omega), wk, if_pos (by unfold SjB; simp only [decide_eq_true_eq]; omega)]
      · have hz := h.2.1 (by omega)
        rw [Nat.min_eq_right (show n ≤ k by omega), Nat.min_eq_right (show n ≤ k + 1 by omega), hz]
        omega
    · by_cases e : i = k
      · subst e
        have := h.2.2 hin
        omega
      · exact ih2 i (by omega) hin
