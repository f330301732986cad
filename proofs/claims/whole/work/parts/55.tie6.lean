/-! EARLY AND BACKS ARE ONE -/
theorem fwd_nn {Wy : Nat → Nat → Int} {F La Sv : Nat → Int} {n : Nat} (hn : n ≤ 7) (hW : ∀ a b, a < 8 → b < 8 → 0 ≤ Wy a b) (hS : ∀ s, s < n → 0 ≤ Sv s) : ∀ (q : List Nat) (t : Int) (p : Nat) (b : Int), p < 8 → (∀ s ∈ q, s < n) → fwd Wy F La Sv q t p = some b → t ≤ b
  | [], t, p, b, hp, _, h => by
    have := hW p 7 hp (by omega)
    cases (show some (t + Wy p 7) = some b from h)
    omega
  | s :: r, t, p, b, hp, hq, h => by
    have hs := hq s List.mem_cons_self
    have h1 := hW p s hp (by omega)
    have h2 := hS s hs
    rw [show fwd Wy F La Sv (s :: r) t p = (stp F La Sv s (t + Wy p s)).bind (fun t' => fwd Wy F La Sv r t' s) from rfl] at h
    unfold stp at h
    by_cases hl : La s < t + Wy p s
    · rw [if_pos hl] at h; cases h
    · rw [if_neg hl] at h
      have := fwd_nn hn hW hS r (max (t + Wy p s) (F s) + Sv s) s b (by omega) (fun x hx => hq x (List.mem_cons_of_mem _ hx)) h
      omega
theorem TT.sv {σ : Nat → Nat → Int} {n nv : Nat} (h : TT σ n nv) : ∀ s, s < n → 0 ≤ σ 5 s := fun s hs => (h.1.2.2.2.2.2.2.2.1 s (by have := h.1.2.1; omega)).1
/-- a row's value in the reference, by the class's words -/
theorem TT.vl {σ : Nat → Nat → Int} {n nv v : Nat} (h : TT σ n nv) (hv : v < nv) {q : List Nat} {b : Int} (hb : 0 ≤ b) : (okM σ n v q ∧ vlM σ v q = b) ↔ (vld n (ahS σ) q ∧ mayB σ n v (lset q) = true ∧ fwd (wyS σ) (σ 3) (σ 4) (σ 5) q (σ 13 v) 7 = some b ∧ b ≤ σ 14 v) := by
  have hok := h.ok hv (q := q)
  constructor
  · rintro ⟨ho, e⟩
    unfold vlM at e
    rw [h.fwe hv (fun s hs => (ho.1 s hs).1)] at e
    cases hf : fwd (wyS σ) (σ 3) (σ 4) (σ 5) q (σ 13 v) 7 with
    | none => rw [hf] at e; dsimp only at e; omega
    | some b' =>
      rw [hf] at e
      dsimp only at e
      by_cases hc : b' ≤ σ 43 v ∧ ldM σ q ≤ σ 41 v
      · rw [if_pos hc] at e
        subst e
        obtain ⟨x, y⟩ := hok.mp ⟨ho, hc.2⟩
        exact ⟨x, y, rfl, by rw [← (h.2.2.2.1 v hv).2.2.1]; exact hc.1⟩
      · rw [if_neg hc] at e; omega
  · rintro ⟨x, y, hf, hd⟩
    obtain ⟨ho, hl⟩ := hok.mpr ⟨x, y⟩
    refine ⟨ho, ?_⟩
    unfold vlM
    rw [h.fwe hv (fun s hs => (ho.1 s hs).1), hf]
    dsimp only
    rw [if_pos ⟨by rw [(h.2.2.2.1 v hv).2.2.1]; exact hd, hl⟩]
/-- what the search finds for a set -/
def bestM (σ : Nat → Nat → Int) (n v S : Nat) : Int × List Nat := (En σ n v (n + 1) [] n).foldl (kq σ v S) (-1, [])
theorem best_tie {σ : Nat → Nat → Int} {n nv v S : Nat} (h : TT σ n nv) (hv : v < nv) (h0 : 0 < S) (hS : S < 2 ^ n) :
    ((bestM σ n v S).1 = -1 ∧ bkI σ n v (2 ^ n - 1) 18 (v * 128 + S) = NV) ∨
    (0 ≤ (bestM σ n v S).1 ∧ (bestM σ n v S).1 = bkI σ n v (2 ^ n - 1) 18 (v * 128 + S) ∧ bkI σ n v (2 ^ n - 1) 18 (v * 128 + S) < NV ∧ σ 13 v ≤ (bestM σ n v S).1 ∧ (bestM σ n v S).1 ≤ σ 14 v ∧ mayB σ n v S = true ∧ vld n (ahS σ) (bestM σ n v S).2 ∧ (bestM σ n v S).2 ≠ [] ∧ lset (bestM σ n v S).2 = S ∧ fwd (wyS σ) (σ 3) (σ 4) (σ 5) (bestM σ n v S).2 (σ 13 v) 7 = some (bestM σ n v S).1 ∧
      ∀ q, vld n (ahS σ) q → lset q = S → fwd (wyS σ) (σ 3) (σ 4) (σ 5) q (σ 13 v) 7 = some (bestM σ n v S).1 → lexLe (bestM σ n v S).2 q) := by
  have hT := h.1
  have hv3 : v < 3 := by have := hT.2.2.2.1; omega
  have h13 := hT.2.2.2.2.2.2.2.2.2.2.2.2.2.2.2.1 v hv3
  have h14 := hT.2.2.2.2.2.2.2.2.2.2.2.2.2.2.2.2.1 v hv3
  have hfi : fiM σ v S (En σ n v (n + 1) [] n) (bestM σ n v S) := En_fi
  have bk : ∀ q, q ≠ [] → vld n (ahS σ) q → lset q = S → mayB σ n v S = true → ∀ b, fwd (wyS σ) (σ 3) (σ 4) (σ 5) q (σ 13 v) 7 = some b → b ≤ σ 14 v → q ∈ En σ n v (n + 1) [] n ∧ gdM σ v S q ∧ vlM σ v q = b ∧ 0 ≤ b := by
    intro q hq hvq hl hm b hf hd
    have hnn := fwd_nn hT.2.1 (wyS_nn hT) h.sv q (σ 13 v) 7 b (by decide) (vld_iff.mp hvq).1 hf
    have hb : 0 ≤ b := by omega
    obtain ⟨ho, e⟩ := (h.vl hv hb).mpr ⟨hvq, by rw [hl]; exact hm, hf, hd⟩
    exact ⟨En_iff.mpr ⟨ho, hq⟩, ⟨hl, by rw [e]; exact hb⟩, e, hb⟩
  rcases hfi with ⟨h1, h2⟩ | ⟨h1, h2, h3, h4⟩
  · left
    refine ⟨h1, Decidable.byContradiction (fun hne => ?_)⟩
    obtain ⟨q, q1, q2, q3, q4, q5, q6⟩ := bk_has hT h.tr h0 hS hne
    obtain ⟨x1, x2, -⟩ := bk q q1 q2 q3 q4 _ q5 q6
    exact h2 q x1 x2
  · right
    obtain ⟨ho, hne⟩ := En_iff.mp h2
    have hb0 : 0 ≤ (bestM σ n v S).1 := by rw [h1]; exact h3.2
    obtain ⟨y1, y2, y3, y4⟩ := (h.vl hv hb0).mp ⟨ho, h1.symm⟩
    have hl := h3.1
    rw [hl] at y2
    obtain ⟨z1, z2⟩ := bk_opt hT h.tr hne y1 (by rw [hl]; exact y2) y3 y4 (by unfold NV; omega)
    rw [hl] at z1 z2
    obtain ⟨q, q1, q2, q3, q4, q5, q6⟩ := bk_has (v := v) hT h.tr h0 hS (by omega)
    obtain ⟨x1, x2, x3, x4⟩ := bk q q1 q2 q3 q4 _ q5 q6
    have hge : (bestM σ n v S).1 ≤ bkI σ n v (2 ^ n - 1) 18 (v * 128 + S) := by
      rcases h4 q x1 x2 with t | t
      · omega
      · omega
    refine ⟨hb0, by omega, z2, ?_, y4, y2, y1, hne, hl, y3, fun q hq hlq hf => ?_⟩
    · exact fwd_nn hT.2.1 (wyS_nn hT) h.sv _ (σ 13 v) 7 _ (by decide) (vld_iff.mp y1).1 y3
    · have hqne : q ≠ [] := by
        intro e
        rw [e] at hlq
        have : S = 0 := hlq.symm
        omega
      obtain ⟨x1, x2, x3, -⟩ := bk q hqne hq hlq y2 _ hf y4
      rcases h4 q x1 x2 with t | t
      · omega
      · exact t.2
