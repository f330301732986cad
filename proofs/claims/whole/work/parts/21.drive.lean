/-! THE MOST OF SOME; THE FIRST OF SOME -/
def mxF (P : Nat → Bool) (f : Nat → Int) (x : Int) : Nat → Int
  | 0 => x
  | k + 1 => if P k = true then max (mxF P f x k) (f k) else mxF P f x k
theorem mxF_x (P : Nat → Bool) (f : Nat → Int) (x : Int) (n : Nat) : x ≤ mxF P f x n := by
  induction n with
  | zero => exact Int.le_refl x
  | succ k ih => unfold mxF; split <;> omega
theorem mxF_le {P : Nat → Bool} {f : Nat → Int} {x : Int} {n i : Nat} (hi : i < n) (hP : P i = true) : f i ≤ mxF P f x n := by
  induction n with
  | zero => omega
  | succ k ih =>
    unfold mxF
    by_cases h : i = k
    · subst h; rw [if_pos hP]; omega
    · have := ih (by omega)
      split <;> omega
theorem mxF_ex (P : Nat → Bool) (f : Nat → Int) (x : Int) (n : Nat) : mxF P f x n = x ∨ ∃ i, i < n ∧ P i = true ∧ mxF P f x n = f i := by
  induction n with
  | zero => exact Or.inl rfl
  | succ k ih =>
    unfold mxF
    split
    · rename_i h
      by_cases h1 : f k ≤ mxF P f x k
      · rw [Int.max_eq_left h1]
        rcases ih with ih | ⟨i, h2, h3, h4⟩
        · exact Or.inl ih
        · exact Or.inr ⟨i, by omega, h3, h4⟩
      · rw [Int.max_eq_right (by omega)]
        exact Or.inr ⟨k, by omega, h, rfl⟩
    · rcases ih with ih | ⟨i, h2, h3, h4⟩
      · exact Or.inl ih
      · exact Or.inr ⟨i, by omega, h3, h4⟩
def fsF (P : Nat → Bool) : Nat → Option Nat
  | 0 => none
  | k + 1 => match fsF P k with
    | some x => some x
    | none => if P k = true then some k else none
theorem fsF_none {P : Nat → Bool} {n : Nat} (h : fsF P n = none) : ∀ i, i < n → P i = false := by
  induction n with
  | zero => intro i hi; omega
  | succ k ih =>
    unfold fsF at h
    cases h1 : fsF P k with
    | some x => rw [h1] at h; cases h
    | none =>
      rw [h1] at h
      dsimp only at h
      intro i hi
      by_cases h2 : i = k
      · subst h2
        cases h3 : P i with
        | false => rfl
        | true => rw [h3] at h; simp at h
      · exact ih h1 i (by omega)
theorem fsF_some {P : Nat → Bool} {n x : Nat} (h : fsF P n = some x) : x < n ∧ P x = true ∧ ∀ i, i < x → P i = false := by
  induction n with
  | zero => cases h
  | succ k ih =>
    unfold fsF at h
    cases h1 : fsF P k with
    | some y =>
      rw [h1] at h
      cases h
      obtain ⟨a, b, c⟩ := ih h1
      exact ⟨by omega, b, c⟩
    | none =>
      rw [h1] at h
      dsimp only at h
      split at h
      · cases h
        rename_i h2
        exact ⟨by omega, h2, fsF_none h1⟩
      · cases h
/-! ROWS IN THEIR ORDER -/
def lexLe : List Nat → List Nat → Prop
  | [], _ => True
  | _ :: _, [] => False
  | a :: x, b :: y => a < b ∨ (a = b ∧ lexLe x y)
theorem lexLe_anti : ∀ (x y : List Nat), x.length = y.length → lexLe x y → lexLe y x → x = y
  | [], [], _, _, _ => rfl
  | [], _ :: _, h, _, _ => by simp at h
  | _ :: _, [], h, _, _ => by simp at h
  | a :: x, b :: y, h, h1, h2 => by
    rcases h1 with h1 | ⟨h1, h3⟩
    · rcases h2 with h2 | ⟨h2, _⟩ <;> omega
    · rcases h2 with h2 | ⟨_, h4⟩
      · omega
      · rw [h1, lexLe_anti x y (by simpa using h) h3 h4]
/-! HOW MANY -/
def cnt (P : Nat → Bool) : Nat → Nat
  | 0 => 0
  | k + 1 => cnt P k + if P k = true then 1 else 0
theorem cnt_one {P P' : Nat → Bool} {s : Nat} (h0 : P s = false) (h1 : P' s = true) (h : ∀ i, i ≠ s → P' i = P i) : ∀ n, cnt P' n = cnt P n + if s < n then 1 else 0 := by
  intro n
  induction n with
  | zero => rfl
  | succ k ih =>
    unfold cnt
    rw [ih]
    by_cases hk : k = s
    · subst hk
      simp [h0, h1]
    · rw [h k hk]
      have : (s < k + 1) = (s < k) := by apply propext; omega
      simp only [this]
      omega
theorem vld_len {n : Nat} {bh : Nat → Nat} : ∀ {r : List Nat}, vld n bh r → r.length = cnt (fun i => (lset r).testBit i) n
  | [], _ => by
    have : ∀ n, cnt (fun i => (lset []).testBit i) n = 0 := by
      intro n
      induction n with
      | zero => rfl
      | succ k ih => unfold cnt; rw [ih]; simp [lset]
    rw [this]; rfl
  | s :: r, h => by
    obtain ⟨h1, h2, h3, h4⟩ := h
    have e := cnt_one (P := fun i => (lset r).testBit i) (P' := fun i => (lset (s :: r)).testBit i) (s := s) h2 lset_head (fun i hi => by
      show (wi (lset r) s).testBit i = _
      rw [wi_bit]; simp [Ne.symm hi]) n
    rw [e, ← vld_len h4, if_pos h1]
    rfl
section Drive
variable (n : Nat) (Wy : Nat → Nat → Int) (F La Sv : Nat → Int) (ah : Nat → Nat) (B : Int)
def fwd : List Nat → Int → Nat → Option Int
  | [], t, p => some (t + Wy p 7)
  | s :: r, t, p => (stp F La Sv s (t + Wy p s)).bind fun t' => fwd r t' s
/-- the last second at which s may be left, the set R, to be begun by the seconds g, being left -/
def lvF (g : Nat → Int) (R s : Nat) : Int := mxF (fun i => R.testBit i) (fun i => g i - Wy s i) (if R = 0 then B - Wy s 7 else -1) n
def ltF (T : Nat → Nat → Int) (P s : Nat) : Int :=
  if ¬ ah s &&& wo P s = 0 then -1
  else if lvF n Wy B (T (wo P s)) (wo P s) s - Sv s < F s then -1
  else min (lvF n Wy B (T (wo P s)) (wo P s) s - Sv s) (La s)
theorem lvF_0 (g : Nat → Int) (s : Nat) : lvF n Wy B g 0 s = B - Wy s 7 := by
  unfold lvF
  rcases mxF_ex (fun i => Nat.testBit 0 i) (fun i => g i - Wy s i) (if (0 : Nat) = 0 then B - Wy s 7 else -1) n with h | ⟨i, -, h, -⟩
  · rw [h, if_pos rfl]
  · simp at h
theorem lvF_le (g : Nat → Int) {R s u : Nat} (hu : u < n) (hb : R.testBit u = true) : g u - Wy s u ≤ lvF n Wy B g R s :=
  mxF_le (P := fun i => R.testBit i) (f := fun i => g i - Wy s i) hu hb
theorem lvF_ex (g : Nat → Int) {R s : Nat} (h0 : ¬ R = 0) : lvF n Wy B g R s = -1 ∨ ∃ u, u < n ∧ R.testBit u = true ∧ lvF n Wy B g R s = g u - Wy s u := by
  unfold lvF
  rw [if_neg h0]
  exact mxF_ex (fun i => R.testBit i) (fun i => g i - Wy s i) (-1) n
/-- there in time: the rest can be driven -/
theorem lt_has {T : Nat → Nat → Int} {M : Nat → Prop} (hM : ∀ S s, M S → S.testBit s = true → M (wo S s)) (hn : ∀ S s, M S → S.testBit s = true → s < n) (hT : ∀ S s, M S → s < n → S.testBit s = true → T S s = ltF n Wy F La Sv ah B T S s)
    (hF : ∀ s, s < n → 0 ≤ F s) (hS : ∀ s, s < n → 0 ≤ Sv s) (hW : ∀ a b, a < 8 → b < 8 → 0 ≤ Wy a b) (hn8 : n ≤ 7) : ∀ (k P s : Nat) (a : Int), P ≤ k → M P → P.testBit s = true → 0 ≤ a → a ≤ T P s →
    ∃ r b, vld n ah (s :: r) ∧ lset (s :: r) = P ∧ (stp F La Sv s a).bind (fun t' => fwd Wy F La Sv r t' s) = some b ∧ b ≤ B := by
  intro k
  induction k with
  | zero =>
    intro P s a hk _ hb
    have : P = 0 := by omega
    subst this
    simp at hb
  | succ k ih =>
    intro P s a hk hm hb ha hle
    have hs := hn P s hm hb
    have hF := hF s hs
    have hS0 := hS s hs
    rw [hT P s hm hs hb] at hle
    unfold ltF at hle
    by_cases h1 : ah s &&& wo P s = 0
    · rw [if_neg (fun z => z h1)] at hle
      by_cases h2 : lvF n Wy B (T (wo P s)) (wo P s) s - Sv s < F s
      · rw [if_pos h2] at hle; omega
      · rw [if_neg h2] at hle
        have hwo : (wo P s).testBit s = false := by rw [wo_bit]; simp
        have hst : stp F La Sv s a = some (max a (F s) + Sv s) := by unfold stp; rw [if_neg (by omega)]
        rw [hst]
        simp only [Option.bind_some]
        by_cases h0 : wo P s = 0
        · rw [h0, lvF_0] at h2 hle
          refine ⟨[], max a (F s) + Sv s + Wy s 7, ⟨hs, by simp [lset], by simp [lset], trivial⟩, ?_, rfl, by omega⟩
          have := wi_wo hb
          rw [h0] at this
          exact this
        · rcases lvF_ex n Wy B (T (wo P s)) (s := s) h0 with h | ⟨u, hu, hub, h⟩
          · rw [h] at h2
            omega
          · rw [h] at h2 hle
            have hWu := hW s u (by omega) (by omega)
            obtain ⟨r, b, v1, v2, v3, v4⟩ := ih (wo P s) u (max a (F s) + Sv s + Wy s u) (by have := wo_lt hb; omega) (hM P s hm hb) hub (by omega) (by omega)
            refine ⟨u :: r, b, ⟨hs, by rw [v2]; exact hwo, by rw [v2]; exact h1, v1⟩, ?_, v3, v4⟩
            show wi (lset (u :: r)) s = P
            rw [v2]; exact wi_wo hb
    · rw [if_pos h1] at hle; omega
theorem lt_opt {T : Nat → Nat → Int} {M : Nat → Prop} (hM : ∀ S s, M S → S.testBit s = true → M (wo S s)) (hT : ∀ S s, M S → s < n → S.testBit s = true → T S s = ltF n Wy F La Sv ah B T S s)
    : ∀ (r : List Nat) (s : Nat) (a b : Int), vld n ah (s :: r) → M (lset (s :: r)) → (stp F La Sv s a).bind (fun t' => fwd Wy F La Sv r t' s) = some b → b ≤ B → a ≤ T (lset (s :: r)) s := by
  intro r
  induction r with
  | nil =>
    intro s a b hv hm ht hB
    obtain ⟨h1, h2, h3, h4⟩ := hv
    rw [hT _ s hm h1 lset_head]
    have e : wo (lset [s]) s = 0 := wo_wi h2
    unfold stp at ht
    by_cases h5 : La s < a
    · rw [if_pos h5] at ht; cases ht
    · rw [if_neg h5] at ht
      simp only [Option.bind_some, fwd] at ht
      cases ht
      unfold ltF
      rw [e, lvF_0, if_neg (by simp), if_neg (by omega)]
      omega
  | cons u r ih =>
    intro s a b hv hm ht hB
    obtain ⟨h1, h2, h3, h4⟩ := hv
    rw [hT _ s hm h1 lset_head]
    have e : wo (lset (s :: u :: r)) s = lset (u :: r) := wo_wi h2
    unfold stp at ht
    by_cases h5 : La s < a
    · rw [if_pos h5] at ht; cases ht
    · rw [if_neg h5] at ht
      simp only [Option.bind_some, fwd] at ht
      have hi := ih u _ b h4 (by rw [← e]; exact hM _ s hm lset_head) ht hB
      unfold ltF
      rw [e]
      have hmx := lvF_le n Wy B (T (lset (u :: r))) (s := s) h4.1 (lset_head (s := u) (r := r))
      rw [if_neg (fun z => z h3), if_neg (by omega)]
      omega
/-- the class's drive: the first stop that is in time, again and again -/
def drv (T : Nat → Nat → Int) : Nat → Nat → Int → Nat → List Nat
  | 0, _, _, _ => []
  | k + 1, p, t, P => match fsF (fun s => P.testBit s && decide (t + Wy p s ≤ T P s)) n with
    | none => []
    | some s => s :: drv T k s (max (t + Wy p s) (F s) + Sv s) (wo P s)
theorem drv_ok {T : Nat → Nat → Int} {M : Nat → Prop} (hM : ∀ S s, M S → S.testBit s = true → M (wo S s)) (hn : ∀ S s, M S → S.testBit s = true → s < n) (hT : ∀ S s, M S → s < n → S.testBit s = true → T S s = ltF n Wy F La Sv ah B T S s)
    (hF : ∀ s, s < n → 0 ≤ F s) (hS : ∀ s, s < n → 0 ≤ Sv s) (hW : ∀ a b, a < 8 → b < 8 → 0 ≤ Wy a b) (hn8 : n ≤ 7) : ∀ (k : Nat) (r : List Nat) (p : Nat) (t b : Int), p < 8 → vld n ah r → r.length ≤ k → 0 ≤ t → M (lset r) → fwd Wy F La Sv r t p = some b → b ≤ B →
    ∃ b', vld n ah (drv n Wy F Sv T k p t (lset r)) ∧ lset (drv n Wy F Sv T k p t (lset r)) = lset r ∧ fwd Wy F La Sv (drv n Wy F Sv T k p t (lset r)) t p = some b' ∧ b' ≤ B ∧ lexLe (drv n Wy F Sv T k p t (lset r)) r := by
  intro k
  induction k with
  | zero =>
    intro r p t b hp hv hlen ht hm hf hB
    have : r = [] := List.length_eq_zero_iff.mp (by omega)
    subst this
    exact ⟨b, trivial, rfl, hf, hB, trivial⟩
  | succ k ih =>
    intro r p t b hp hv hlen ht hm hf hB
    cases r with
    | nil =>
      have h0 : fsF (fun s => (lset []).testBit s && decide (t + Wy p s ≤ T (lset []) s)) n = none := by
        cases h : fsF (fun s => (lset []).testBit s && decide (t + Wy p s ≤ T (lset []) s)) n with
        | none => rfl
        | some x =>
          have := (fsF_some h).2.1
          simp [lset] at this
      unfold drv
      rw [h0]
      exact ⟨b, trivial, rfl, hf, hB, trivial⟩
    | cons s0 r0 =>
      have hlt : t + Wy p s0 ≤ T (lset (s0 :: r0)) s0 := lt_opt n Wy F La Sv ah B hM hT r0 s0 (t + Wy p s0) b hv hm hf hB
      cases hfs : fsF (fun s => (lset (s0 :: r0)).testBit s && decide (t + Wy p s ≤ T (lset (s0 :: r0)) s)) n with
      | none =>
        have := fsF_none hfs s0 hv.1
        simp [lset_head, hlt] at this
      | some s =>
        obtain ⟨hs, hps, hmin⟩ := fsF_some hfs
        simp only [Bool.and_eq_true, decide_eq_true_eq] at hps
        obtain ⟨hb, hle⟩ := hps
        have hs0 : s ≤ s0 := by
          rcases Nat.lt_or_ge s0 s with h | h
          · have := hmin s0 h
            simp [lset_head, hlt] at this
          · exact h
        have key : ∃ r1 b1, vld n ah (s :: r1) ∧ lset (s :: r1) = lset (s0 :: r0) ∧ (stp F La Sv s (t + Wy p s)).bind (fun t' => fwd Wy F La Sv r1 t' s) = some b1 ∧ b1 ≤ B ∧ (s = s0 → r1 = r0) := by
          by_cases hss : s = s0
          · subst hss
            exact ⟨r0, b, hv, rfl, hf, hB, fun _ => rfl⟩
          · obtain ⟨r1, b1, v1, v2, v3, v4⟩ := lt_has n Wy F La Sv ah B hM hn hT hF hS hW hn8 _ _ s (t + Wy p s) (Nat.le_refl _) hm hb (by have := hW p s hp (by omega); omega) hle
            exact ⟨r1, b1, v1, v2, v3, v4, fun h => absurd h hss⟩
        obtain ⟨r1, b1, v1, v2, v3, v4, v5⟩ := key
        have hst : stp F La Sv s (t + Wy p s) = some (max (t + Wy p s) (F s) + Sv s) := by
          unfold stp at v3 ⊢
          split at v3
          · cases v3
          · rename_i h; rw [if_neg h]
        rw [hst] at v3
        simp only [Option.bind_some] at v3
        have hl1 : r1.length ≤ k := by
          have a1 := vld_len v1
          have a2 := vld_len hv
          rw [v2, ← a2] at a1
          simp at a1 hlen
          omega
        have e1 : wo (lset (s0 :: r0)) s = lset r1 := by rw [← v2]; exact wo_wi v1.2.1
        obtain ⟨b', w1, w2, w3, w4, w5⟩ := ih r1 s _ b1 (by omega) v1.2.2.2 hl1 (by have := hS s hs; have := hW p s hp (by omega); omega) (by rw [← e1]; exact hM _ s hm hb) v3 v4
        unfold drv
        rw [hfs]
        dsimp only
        rw [e1]
        refine ⟨b', ⟨hs, by rw [w2]; exact v1.2.1, by rw [w2]; exact v1.2.2.1, w1⟩, ?_, ?_, w4, ?_⟩
        · show wi (lset _) s = _
          rw [w2]; exact v2
        · show (stp F La Sv s (t + Wy p s)).bind _ = _
          rw [hst]; exact w3
        · rcases Nat.lt_or_ge s s0 with h | h
          · exact Or.inl h
          · have hss : s = s0 := by omega
            exact Or.inr ⟨hss, by rw [← v5 hss]; exact w5⟩
end Drive
