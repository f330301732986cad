/-! ROWS OF STOPS: as lists -/
theorem lset_mem {i : Nat} : ∀ {r : List Nat}, (lset r).testBit i = true ↔ i ∈ r
  | [] => by simp [lset]
  | s :: r => by
    rw [show lset (s :: r) = wi (lset r) s from rfl, wi_bit]
    simp only [Bool.or_eq_true, decide_eq_true_eq, List.mem_cons]
    rw [lset_mem]
    constructor
    · rintro (h | h)
      · exact Or.inr h
      · exact Or.inl h.symm
    · rintro (h | h)
      · exact Or.inr h.symm
      · exact Or.inl h
theorem lset_not {i : Nat} {r : List Nat} : (lset r).testBit i = false ↔ i ∉ r := by
  rw [← Bool.not_eq_true, lset_mem]
theorem lset_ext {r q : List Nat} (h : ∀ i, i ∈ r ↔ i ∈ q) : lset r = lset q := by
  apply Nat.eq_of_testBit_eq
  intro i
  rw [Bool.eq_iff_iff, lset_mem, lset_mem]
  exact h i
theorem lset_rev (r : List Nat) : lset r.reverse = lset r := lset_ext (fun i => by simp)
theorem and_lset {x : Nat} {r : List Nat} : x &&& lset r = 0 ↔ ∀ b ∈ r, x.testBit b = false := by
  constructor
  · intro h b hb
    have h1 : (x &&& lset r).testBit b = false := by rw [h]; simp
    rw [Nat.testBit_and, lset_mem.mpr hb] at h1
    simpa using h1
  · intro h
    apply Nat.eq_of_testBit_eq
    intro i
    rw [Nat.testBit_and, Nat.zero_testBit]
    by_cases hi : i ∈ r
    · rw [h i hi]; rfl
    · rw [lset_not.mpr hi]; simp
theorem vld_iff {n : Nat} {bh : Nat → Nat} : ∀ {r : List Nat}, vld n bh r ↔ (∀ s ∈ r, s < n) ∧ r.Nodup ∧ r.Pairwise (fun a b => (bh a).testBit b = false)
  | [] => by simp [vld]
  | s :: r => by
    rw [show vld n bh (s :: r) = (s < n ∧ (lset r).testBit s = false ∧ bh s &&& lset r = 0 ∧ vld n bh r) from rfl, vld_iff, lset_not, and_lset]
    simp only [List.mem_cons, forall_eq_or_imp, List.nodup_cons, List.pairwise_cons]
    constructor
    · rintro ⟨a, b, c, d, e, f⟩; exact ⟨⟨a, d⟩, ⟨b, e⟩, c, f⟩
    · rintro ⟨⟨a, d⟩, ⟨b, e⟩, c, f⟩; exact ⟨a, b, c, d, e, f⟩
theorem nodup_rev {r : List Nat} : r.reverse.Nodup ↔ r.Nodup := by
  unfold List.Nodup
  rw [List.pairwise_reverse]
  constructor <;> intro h <;> exact h.imp (fun hab => Ne.symm hab)
theorem vld_rev {n : Nat} {bh ah : Nat → Nat} (h : ∀ i j, i < n → j < n → (bh i).testBit j = (ah j).testBit i) {r : List Nat} : vld n bh r.reverse ↔ vld n ah r := by
  rw [vld_iff, vld_iff, List.pairwise_reverse]
  constructor
  · rintro ⟨a, b, c⟩
    have a' : ∀ s ∈ r, s < n := fun s hs => a s (by simpa using hs)
    refine ⟨a', nodup_rev.mp b, List.Pairwise.imp_of_mem (fun {x y} hx hy hxy => ?_) c⟩
    rw [h y x (a' y hy) (a' x hx)] at hxy
    exact hxy
  · rintro ⟨a, b, c⟩
    refine ⟨fun s hs => a s (by simpa using hs), nodup_rev.mpr b, List.Pairwise.imp_of_mem (fun {x y} hx hy hxy => ?_) c⟩
    rw [h y x (a y hy) (a x hx)]
    exact hxy
section Fwd
variable (Wy : Nat → Nat → Int) (F La Sv : Nat → Int) (t0 : Int)
theorem rdy_none {a : List Nat} (ha : a ≠ []) (h : rdy Wy F La Sv t0 a = none) : ∀ x : List Nat, rdy Wy F La Sv t0 (x ++ a) = none
  | [] => h
  | s :: x => by
    have ih := rdy_none ha h x
    cases hx : x ++ a with
    | nil => simp at hx; exact absurd hx.2 ha
    | cons u r =>
      rw [List.cons_append, hx, show rdy Wy F La Sv t0 (s :: u :: r) = (rdy Wy F La Sv t0 (u :: r)).bind fun t => stp F La Sv s (t + Wy u s) from rfl, ← hx, ih]
      rfl
theorem fwd_rdy : ∀ (r : List Nat) (p : Nat) (a : List Nat) (t : Int), rdy Wy F La Sv t0 (p :: a) = some t →
    fwd Wy F La Sv r t p = (rdy Wy F La Sv t0 (r.reverse ++ p :: a)).map (fun x => x + Wy ((r.reverse ++ p :: a).headD 0) 7)
  | [], p, a, t, h => by
    rw [show fwd Wy F La Sv [] t p = some (t + Wy p 7) from rfl]
    simp [h]
  | s :: r, p, a, t, h => by
    rw [show fwd Wy F La Sv (s :: r) t p = (stp F La Sv s (t + Wy p s)).bind (fun t' => fwd Wy F La Sv r t' s) from rfl]
    have e : rdy Wy F La Sv t0 (s :: p :: a) = stp F La Sv s (t + Wy p s) := by
      rw [show rdy Wy F La Sv t0 (s :: p :: a) = (rdy Wy F La Sv t0 (p :: a)).bind fun t => stp F La Sv s (t + Wy p s) from rfl, h]
      rfl
    rw [List.reverse_cons, List.append_assoc, List.singleton_append]
    cases hs : stp F La Sv s (t + Wy p s) with
    | none => rw [hs] at e; rw [rdy_none Wy F La Sv t0 (by simp) e]; rfl
    | some t' => rw [hs] at e; exact fwd_rdy r s (p :: a) t' e
/-- a row, driven from the yard at t0 -/
theorem fwd_yard (s : Nat) (r : List Nat) : fwd Wy F La Sv (s :: r) t0 7 = (rdy Wy F La Sv t0 (s :: r).reverse).map (fun x => x + Wy ((s :: r).reverse.headD 0) 7) := by
  rw [show fwd Wy F La Sv (s :: r) t0 7 = (stp F La Sv s (t0 + Wy 7 s)).bind (fun t' => fwd Wy F La Sv r t' s) from rfl, List.reverse_cons]
  have e : rdy Wy F La Sv t0 [s] = stp F La Sv s (t0 + Wy 7 s) := rfl
  cases hs : stp F La Sv s (t0 + Wy 7 s) with
  | none => rw [hs] at e; rw [rdy_none Wy F La Sv t0 (by simp) e]; rfl
  | some t' => rw [hs] at e; exact fwd_rdy Wy F La Sv t0 r s [] t' e
end Fwd
/-! THE CLASS'S TABLE OF BACKS: the least over all rows -/
theorem mhF_congr {σ σ' : Nat → Nat → Int} {v S : Nat} (h2 : σ' 2 = σ 2) (h7 : σ' 7 = σ 7) (h8 : σ' 8 = σ 8) : ∀ i, mhF σ' v S i = mhF σ v S i
  | 0 => rfl
  | i + 1 => by unfold mhF; rw [mhF_congr h2 h7 h8 i, h2, h7, h8]
theorem mayB_congr {σ σ' : Nat → Nat → Int} {n v S : Nat} (h2 : σ' 2 = σ 2) (h7 : σ' 7 = σ 7) (h8 : σ' 8 = σ 8) (h12 : σ' 12 = σ 12) : mayB σ' n v S = mayB σ n v S := by
  unfold mayB; rw [mhF_congr h2 h7 h8, h12]
theorem fbS_in {σ : Nat → Nat → Int} {n v S s : Nat} (hb : S.testBit s = true) : ∀ i, s < i → fbS σ n v S i 19 (S * 7 + s) = rdG σ n v S s
  | 0, h => by omega
  | i + 1, h => by
    unfold fbS
    by_cases e : s = i
    · subst e; rw [if_pos hb, zU_self]
    · split
      · rw [zU_nj (by omega)]; exact fbS_in hb i (by omega)
      · exact fbS_in hb i (by omega)
theorem bkI_may {σ : Nat → Nat → Int} {n v S j : Nat} : mayB (bkI σ n v j) n v S = mayB σ n v S :=
  mayB_congr (bkI_ne (by decide) (by decide) j) (bkI_ne (by decide) (by decide) j) (bkI_ne (by decide) (by decide) j) (bkI_ne (by decide) (by decide) j)
theorem bkI_stay {σ : Nat → Nat → Int} {n v S i : Nat} (hn : n ≤ 7) (hi : i < 7) : ∀ j, S ≤ j → bkI σ n v j 19 (S * 7 + i) = bkI σ n v S 19 (S * 7 + i) := by
  intro j hj
  induction j with
  | zero => have : S = 0 := by omega
            subst this; rfl
  | succ j ih =>
    by_cases e : S = j + 1
    · subst e; rfl
    · rw [← ih (by omega), bkI]
      split
      · rw [zU_ne (by decide), fbS_out n (by omega)]
      · rw [zU_ne (by decide)]
theorem bkI_stay18 {σ : Nat → Nat → Int} {n v S : Nat} : ∀ j, S ≤ j → bkI σ n v j 18 (v * 128 + S) = bkI σ n v S 18 (v * 128 + S) := by
  intro j hj
  induction j with
  | zero => have : S = 0 := by omega
            subst this; rfl
  | succ j ih =>
    by_cases e : S = j + 1
    · subst e; rfl
    · rw [← ih (by omega), bkI]
      split
      · rw [zU_nj (by omega), fbS_ne (by decide)]
      · rw [zU_nj (by omega)]
theorem rdG_tell {σ τ : Nat → Nat → Int} {n v S s : Nat} (T : Nat → Nat → Int) (h : ∀ k, k ≤ 16 → τ k = σ k) (hT : ∀ i, i < n → (wo S s).testBit i = true → τ 19 (wo S s * 7 + i) = T (wo S s) i) : rdG τ n v S s = rdF n (wyS σ) (σ 3) (σ 4) (σ 5) (σ 13 v) (fun i => (σ 10 i).toNat) T S s := by
  have e : thG τ v S s n = thF n (wyS σ) (σ 13 v) (T (wo S s)) (wo S s) s := by
    unfold thG thF wyS
    rw [h 13 (by decide), h 16 (by decide)]
    exact mnF_congr n (fun i hi hb => by rw [hT i hi hb])
  unfold rdG rdF
  rw [e, h 10 (by decide), h 4 (by decide), h 3 (by decide), h 5 (by decide)]
theorem bk_rec {σ : Nat → Nat → Int} {n v N S s : Nat} (hn : n ≤ 7) (hN : S ≤ N) (hs : s < n) (hb : S.testBit s = true) (hm : mayB σ n v S = true) : bkI σ n v N 19 (S * 7 + s) = rdF n (wyS σ) (σ 3) (σ 4) (σ 5) (σ 13 v) (fun i => (σ 10 i).toNat) (fun S i => bkI σ n v N 19 (S * 7 + i)) S s := by
  obtain ⟨j, rfl⟩ : ∃ j, S = j + 1 := ⟨S - 1, by
    have : S ≠ 0 := by intro h; subst h; simp at hb
    omega⟩
  have hlt := wo_lt hb
  rw [bkI_stay hn (by omega) N hN, bkI, bkI_may, if_pos hm, zU_ne (by decide), fbS_in hb n hs]
  refine rdG_tell _ (fun k hk => bkI_ne (by omega) (by omega) j) (fun i hi _ => ?_)
  show bkI σ n v j 19 _ = bkI σ n v N 19 _
  rw [bkI_stay hn (by omega) j (by omega), bkI_stay hn (by omega) N (by omega)]
theorem bk_val {σ : Nat → Nat → Int} {n v N S : Nat} (hn : n ≤ 7) (hN : S ≤ N) (h0 : 0 < S) : bkI σ n v N 18 (v * 128 + S) = if mayB σ n v S = true then (if mnF (fun i => S.testBit i) (fun i => bkI σ n v N 19 (S * 7 + i) + wyS σ i 7) NV n ≤ σ 14 v then mnF (fun i => S.testBit i) (fun i => bkI σ n v N 19 (S * 7 + i) + wyS σ i 7) NV n else NV) else NV := by
  obtain ⟨j, rfl⟩ : ∃ j, S = j + 1 := ⟨S - 1, by omega⟩
  rw [bkI_stay18 N hN, bkI, bkI_may]
  split
  · rename_i hm
    rw [zU_self]
    have e : fbB (bkI σ n v j) n v (j + 1) n = mnF (fun i => (j + 1).testBit i) (fun i => bkI σ n v N 19 ((j + 1) * 7 + i) + wyS σ i 7) NV n := by
      unfold fbB
      refine mnF_congr n (fun i hi hb => ?_)
      have e1 : bkI σ n v N 19 ((j + 1) * 7 + i) = rdG (bkI σ n v j) n v (j + 1) i := by
        rw [bkI_stay hn (by omega) N hN, bkI, bkI_may, if_pos hm, zU_ne (by decide), fbS_in hb n hi]
      rw [e1]
      unfold wyS
      rw [bkI_ne (by decide) (by decide)]
    unfold fbR
    rw [e, show bkI σ n v j 14 = σ 14 from bkI_ne (by decide) (by decide) j]
  · rw [zU_self]
theorem mhF_sub {σ : Nat → Nat → Int} {v S s : Nat} (h2 : bd σ 2 7 0 100000) : ∀ i, i ≤ 7 → ∀ ld, mhF σ v S i = some ld → ∃ ld', mhF σ v (wo S s) i = some ld' ∧ ld' ≤ ld
  | 0, _, ld, h => by unfold mhF at h; cases h; exact ⟨0, rfl, Int.le_refl 0⟩
  | i + 1, hi, ld, h => by
    cases hq : mhF σ v S i with
    | none => rw [mhF, hq] at h; cases h
    | some l0 =>
      obtain ⟨l1, e1, e2⟩ := mhF_sub (s := s) h2 i (by omega) l0 hq
      have hk := h2 i (by omega)
      by_cases hb : S.testBit i = true
      · by_cases hc : (σ 7 i ≠ -1 ∧ σ 7 i ≠ (v : Int)) ∨ ¬ (σ 8 i).toNat &&& S = 0
        · rw [mhF, hq] at h; dsimp only at h; rw [if_pos hb, if_pos hc] at h; cases h
        · rw [mhF_t hq hb hc] at h
          cases h
          by_cases hw : (wo S s).testBit i = true
          · refine ⟨l1 + σ 2 i, mhF_t e1 hw (fun z => ?_), by omega⟩
            rcases z with z | z
            · exact hc (Or.inl z)
            · refine hc (Or.inr (fun y => z ?_))
              apply Nat.eq_of_testBit_eq
              intro k
              rw [Nat.testBit_and, Nat.zero_testBit, wo_bit]
              have : ((σ 8 i).toNat &&& S).testBit k = false := by rw [y]; simp
              rw [Nat.testBit_and] at this
              cases h1 : (σ 8 i).toNat.testBit k <;> cases h3 : S.testBit k <;> simp_all
          · exact ⟨l1, mhF_f e1 hw, by omega⟩
      · rw [mhF_f hq hb] at h
        cases h
        exact ⟨l1, mhF_f e1 (by rw [wo_bit]; simp [hb]), e2⟩
theorem mayB_sub {σ : Nat → Nat → Int} {n v S s : Nat} (hn : n ≤ 7) (h2 : bd σ 2 7 0 100000) (h : mayB σ n v S = true) : mayB σ n v (wo S s) = true := by
  unfold mayB at h ⊢
  cases hq : mhF σ v S n with
  | none => rw [hq] at h; cases h
  | some ld =>
    rw [hq] at h
    obtain ⟨l1, e1, e2⟩ := mhF_sub (s := s) h2 n hn ld hq
    rw [e1]
    simp only [decide_eq_true_eq] at h ⊢
    omega
