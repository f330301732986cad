/-! WHAT A DRIVEN ROW LEAVES BEHIND -/
section Bg
variable (Wy : Nat → Nat → Int) (F Sv : Nat → Int)
def bgk : List Nat → Int → Nat → Nat → Int
  | [], _, _, _ => -1
  | s :: _, t, p, 0 => max (t + Wy p s) (F s)
  | s :: r, t, p, k + 1 => bgk r (max (t + Wy p s) (F s) + Sv s) s k
def endT : List Nat → Int → Nat → Int
  | [], t, p => t + Wy p 7
  | s :: r, t, p => endT r (max (t + Wy p s) (F s) + Sv s) s
theorem end_fwd {La : Nat → Int} : ∀ (q : List Nat) (t : Int) (p : Nat) (b : Int), fwd Wy F La Sv q t p = some b → endT Wy F Sv q t p = b
  | [], t, p, b, h => by cases (show some (t + Wy p 7) = some b from h); rfl
  | s :: r, t, p, b, h => by
    rw [show fwd Wy F La Sv (s :: r) t p = (stp F La Sv s (t + Wy p s)).bind (fun t' => fwd Wy F La Sv r t' s) from rfl] at h
    unfold stp at h
    by_cases hl : La s < t + Wy p s
    · rw [if_pos hl] at h; cases h
    · rw [if_neg hl] at h
      exact end_fwd r _ s b h
theorem bgk_rn {La : Nat → Int} : ∀ (q : List Nat) (t : Int) (p k : Nat) (x : Int × Nat), rn Wy F La Sv (q.take k) t p = some x → k < q.length → bgk Wy F Sv q t p k = max (x.1 + Wy x.2 (q.getD k 0)) (F (q.getD k 0))
  | [], t, p, k, x, _, hk => by simp at hk
  | s :: r, t, p, 0, x, h, _ => by
    cases (show some (t, p) = some x from h)
    rfl
  | s :: r, t, p, k + 1, x, h, hk => by
    rw [List.take_succ_cons, show rn Wy F La Sv (s :: r.take k) t p = (stp F La Sv s (t + Wy p s)).bind (fun t' => rn Wy F La Sv (r.take k) t' s) from rfl] at h
    unfold stp at h
    by_cases hl : La s < t + Wy p s
    · rw [if_pos hl] at h; cases h
    · rw [if_neg hl] at h
      exact bgk_rn r _ s k x h (by simpa using hk)
end Bg
theorem bgk_congr {Wy Wy' : Nat → Nat → Int} {F Sv F' Sv' : Nat → Int} {n : Nat} (hW : ∀ a b, a < 8 → b < 8 → Wy' a b = Wy a b) (hF : ∀ s, s < n → F' s = F s) (hS : ∀ s, s < n → Sv' s = Sv s) (hn : n ≤ 7) : ∀ (q : List Nat) (t : Int) (p k : Nat), p < 8 → (∀ s ∈ q, s < n) → bgk Wy' F' Sv' q t p k = bgk Wy F Sv q t p k
  | [], _, _, _, _, _ => rfl
  | s :: r, t, p, 0, hp, hq => by
    have hs := hq s List.mem_cons_self
    show max (t + Wy' p s) (F' s) = max (t + Wy p s) (F s)
    rw [hW p s hp (by omega), hF s hs]
  | s :: r, t, p, k + 1, hp, hq => by
    have hs := hq s List.mem_cons_self
    show bgk Wy' F' Sv' r (max (t + Wy' p s) (F' s) + Sv' s) s k = bgk Wy F Sv r (max (t + Wy p s) (F s) + Sv s) s k
    rw [hW p s hp (by omega), hF s hs, hS s hs]
    exact bgk_congr hW hF hS hn r _ s k (by omega) (fun x hx => hq x (List.mem_cons_of_mem _ hx))
theorem getD_mem {q : List Nat} {k : Nat} (h : k < q.length) : q.getD k 0 ∈ q := by
  rw [List.getD_eq_getElem?_getD, List.getElem?_eq_getElem h]
  exact List.getElem_mem h
/-- the class's notes -/
theorem nL_eff {σ : Nat → Nat → Int} {v : Nat} : ∀ (q : List Nat) (t : Int) (p m : Nat) (τ : Nat → Nat → Int), τ 29 v = (m : Int) → m + q.length ≤ 7 → q.Nodup →
    nL σ v q t p τ 29 v = ((m + q.length : Nat) : Int) ∧ (∀ x, x ≠ v → nL σ v q t p τ 29 x = τ 29 x) ∧ (∀ k, k < q.length → nL σ v q t p τ 28 (v * 7 + m + k) = ((q.getD k 0 : Nat) : Int)) ∧ (∀ i, (i < v * 7 + m ∨ v * 7 + 7 ≤ i) → nL σ v q t p τ 28 i = τ 28 i) ∧ (∀ k, k < q.length → nL σ v q t p τ 27 (q.getD k 0) = bgk (wyS σ) (σ 3) (σ 5) q t p k) ∧ (∀ s, s ∉ q → nL σ v q t p τ 27 s = τ 27 s) ∧ nL σ v q t p τ 30 v = endT (wyS σ) (σ 3) (σ 5) q t p ∧ (∀ x, x ≠ v → nL σ v q t p τ 30 x = τ 30 x) ∧ (∀ h, h < 27 ∨ 30 < h → nL σ v q t p τ h = τ h)
  | [], t, p, m, τ, hm, _, _ => by
    refine ⟨?_, fun x hx => ?_, fun k hk => by simp at hk, fun i hi => ?_, fun k hk => by simp at hk, fun s hs => ?_, ?_, fun x hx => ?_, fun h hh => ?_⟩
    · show zU τ 30 v _ 29 v = _; rw [zU_ne (by decide)]; simpa using hm
    · show zU τ 30 v _ 29 x = _; rw [zU_ne (by decide)]
    · show zU τ 30 v _ 28 i = _; rw [zU_ne (by decide)]
    · show zU τ 30 v _ 27 s = _; rw [zU_ne (by decide)]
    · show zU τ 30 v _ 30 v = _; rw [zU_self]; rfl
    · show zU τ 30 v _ 30 x = _; rw [zU_nj hx]
    · show zU τ 30 v _ h = _; rw [zU_ne (by omega)]
  | s :: r, t, p, m, τ, hm, hl, hn => by
    rw [List.length_cons] at hl
    rw [List.nodup_cons] at hn
    have e : ntF τ v s (max (t + wyS σ p s) (σ 3 s)) = zU (zU (zU τ 28 (v * 7 + m) (s : Int)) 29 v ((m : Int) + 1)) 27 s (max (t + wyS σ p s) (σ 3 s)) := by
      unfold ntF
      rw [if_neg (by omega), hm, Int.toNat_natCast]
    have ih := nL_eff (σ := σ) (v := v) r (max (t + wyS σ p s) (σ 3 s) + σ 5 s) s (m + 1) (ntF τ v s (max (t + wyS σ p s) (σ 3 s))) (by rw [e, zU_ne (by decide), zU_self]; omega) (by omega) hn.2
    obtain ⟨a1, a2, a3, a4, a5, a6, a7, a8, a9⟩ := ih
    have hst : nL σ v (s :: r) t p τ = nL σ v r (max (t + wyS σ p s) (σ 3 s) + σ 5 s) s (ntF τ v s (max (t + wyS σ p s) (σ 3 s))) := rfl
    rw [hst]
    refine ⟨?_, fun x hx => ?_, fun k hk => ?_, fun i hi => ?_, fun k hk => ?_, fun y hy => ?_, a7, fun x hx => ?_, fun h hh => ?_⟩
    · rw [a1, List.length_cons]; omega
    · rw [a2 x hx, e, zU_ne (by decide), zU_nj hx, zU_ne (by decide)]
    · cases k with
      | zero =>
        rw [List.getD_cons_zero, a4 _ (by omega), e, zU_ne (by decide), zU_ne (by decide)]
        show zU τ 28 (v * 7 + m) _ 28 (v * 7 + m) = _
        rw [zU_self]
      | succ k =>
        rw [List.getD_cons_succ, ← a3 k (by simpa using hk)]
        congr 1
        omega
    · rw [a4 i (by omega), e, zU_ne (by decide), zU_ne (by decide), zU_nj (by omega)]
    · cases k with
      | zero => rw [List.getD_cons_zero, a6 s hn.1, e, zU_self]; rfl
      | succ k => rw [List.getD_cons_succ]; exact a5 k (by simpa using hk)
    · rw [List.mem_cons, not_or] at hy
      rw [a6 y hy.2, e, zU_nj hy.1, zU_ne (by decide), zU_ne (by decide)]
    · rw [a8 x hx, e, zU_ne (by decide), zU_ne (by decide), zU_ne (by decide)]
    · rw [a9 h hh, e, zU_ne (by omega), zU_ne (by omega), zU_ne (by omega)]
/-- the reference's begins along the trial -/
theorem trL_len {σ : Nat → Nat → Int} {m : Nat} : (trL σ m).length = m := by unfold trL; simp
theorem trL_take {σ : Nat → Nat → Int} {m k : Nat} (h : k ≤ m) : (trL σ m).take k = trL σ k := by
  unfold trL
  rw [← List.map_take, List.take_range, Nat.min_eq_left h]
theorem trL_get {σ : Nat → Nat → Int} {m k : Nat} (h : k < m) : (trL σ m).getD k 0 = tr σ k := by
  unfold trL
  rw [List.getD_eq_getElem?_getD, List.getElem?_map, List.getElem?_range h]
  rfl
theorem db_eff {β : Nat → Nat → Int} {v : Nat} : ∀ m, (trL β m).Nodup → (drK β v m).isSome = true → (∀ k, k < m → dbK β v m 50 (tr β k) = bgk (wyM β) (β 34) (β 36) (trL β m) (β 42 v) 7 k) ∧ ∀ s, s ∉ trL β m → dbK β v m 50 s = β 50 s := by
  have main : ∀ M, (trL β M).Nodup → (drK β v M).isSome = true → ∀ m, m ≤ M → (drK β v m).isSome = true ∧ (∀ k, k < m → dbK β v m 50 (tr β k) = bgk (wyM β) (β 34) (β 36) (trL β M) (β 42 v) 7 k) ∧ ∀ s, s ∉ trL β m → dbK β v m 50 s = β 50 s := by
    intro M hnd hM m
    have hsome : ∀ m, m ≤ M → (drK β v m).isSome = true := by
      intro m hm
      cases hq : drK β v m with
      | none => rw [(drK_no hq M hm).1] at hM; cases hM
      | some x => rfl
    induction m with
    | zero => intro _; exact ⟨rfl, fun k hk => by omega, fun s _ => rfl⟩
    | succ m ih =>
      intro hm
      obtain ⟨-, i1, i2⟩ := ih (by omega)
      have hs1 := hsome m (by omega)
      have hs2 := hsome (m + 1) hm
      cases hq : drK β v m with
      | none => rw [hq] at hs1; cases hs1
      | some x =>
        have hnl : ¬ β 35 (tr β m) < x.1 + β 45 (8 * x.2.1 + tr β m) := by
          intro z
          rw [(drK_late hq z).1] at hs2
          cases hs2
        have hdb := (drK_go hq hnl).2
        have hmem : tr β m ∉ trL β m := by
          have h1 : (trL β (m + 1)).Nodup := by
            rw [← trL_take (show m + 1 ≤ M by omega)]
            exact hnd.sublist (List.take_sublist _ _)
          rw [trL_s] at h1
          intro z
          have := (List.pairwise_append.mp h1).2.2 (tr β m) z (tr β m) List.mem_cons_self
          exact this rfl
        refine ⟨hs2, fun k hk => ?_, fun s hs => ?_⟩
        · rw [hdb]
          by_cases e : k = m
          · subst e
            rw [zU_self]
            have hrn : rn (wyM β) (β 34) (β 35) (β 36) ((trL β M).take k) (β 42 v) 7 = some (x.1, x.2.1) := by
              rw [trL_take (by omega)]
              have := drK_rn (σ := β) (v := v) k
              rw [hq] at this
              cases hr : rn (wyM β) (β 34) (β 35) (β 36) (trL β k) (β 42 v) 7 with
              | none => rw [hr] at this; cases this
              | some y =>
                rw [hr] at this
                have h2 : x = (y.1, y.2, ldM β (trL β k)) := Option.some.inj this
                rw [h2]
            rw [bgk_rn (wyM β) (β 34) (β 36) (trL β M) (β 42 v) 7 k _ hrn (by rw [trL_len]; omega), trL_get (by omega)]
            rfl
          · have hne : tr β k ≠ tr β m := by
              intro z
              exact hmem (z ▸ (trL_mem.mpr ⟨k, by omega, rfl⟩))
            rw [zU_nj hne]
            exact i1 k (by omega)
        · rw [trL_s, List.mem_append, not_or] at hs
          rw [hdb, zU_nj (fun z => hs.2 (by rw [z]; exact List.mem_cons_self))]
          exact i2 s hs.1
  intro m hnd hs
  obtain ⟨-, a, b⟩ := main m hnd hs m (Nat.le_refl m)
  exact ⟨a, b⟩
