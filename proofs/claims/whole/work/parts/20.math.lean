/-! SETS OF STOPS AS NUMBERS -/
def wi (S s : Nat) : Nat := S ||| 2 ^ s
def wo (S s : Nat) : Nat := (S ||| 2 ^ s) ^^^ 2 ^ s
theorem wi_bit (S s t : Nat) : (wi S s).testBit t = (S.testBit t || decide (s = t)) := by
  simp [wi, Nat.testBit_or, Nat.testBit_two_pow]
theorem wo_bit (S s t : Nat) : (wo S s).testBit t = (S.testBit t && !decide (s = t)) := by
  by_cases h : s = t <;> simp [wo, Nat.testBit_or, Nat.testBit_xor, Nat.testBit_two_pow, h]
theorem wo_wi {S s : Nat} (h : S.testBit s = false) : wo (wi S s) s = S := by
  apply Nat.eq_of_testBit_eq
  intro i
  rw [wo_bit, wi_bit]
  by_cases h1 : s = i
  · subst h1; simp [h]
  · simp [h1]
theorem wi_wo {S s : Nat} (h : S.testBit s = true) : wi (wo S s) s = S := by
  apply Nat.eq_of_testBit_eq
  intro i
  rw [wi_bit, wo_bit]
  by_cases h1 : s = i
  · subst h1; simp [h]
  · simp [h1]
theorem dj_add {a b : Nat} (h : a &&& b = 0) : a ||| b = a + b := by
  have hw : a + b < 2 ^ (a + b) := Nat.lt_two_pow_self
  have e := BitVec.add_eq_or_of_and_eq_zero (BitVec.ofNat (a + b) a) (BitVec.ofNat (a + b) b) (by rw [← BitVec.ofNat_and, h])
  have e2 := congrArg BitVec.toNat e
  rw [BitVec.toNat_add, BitVec.toNat_or, BitVec.toNat_ofNat, BitVec.toNat_ofNat, Nat.mod_eq_of_lt (show a < 2 ^ (a + b) by omega), Nat.mod_eq_of_lt (show b < 2 ^ (a + b) by omega), Nat.mod_eq_of_lt hw] at e2
  exact e2.symm
theorem wo_add {S s : Nat} (h : S.testBit s = true) : wo S s + 2 ^ s = S := by
  have h2 : (wo S s).testBit s = false := by rw [wo_bit]; simp
  have h3 : wo S s &&& 2 ^ s = 0 := by
    apply Nat.eq_of_testBit_eq
    intro i
    rw [Nat.testBit_and, Nat.testBit_two_pow, Nat.zero_testBit]
    by_cases h4 : s = i
    · subst h4; simp [h2]
    · simp [h4]
  rw [← dj_add h3]
  exact wi_wo h
/-- a part taken off -/
theorem sub_bit {S P : Nat} (h : P &&& S = P) (i : Nat) : (S - P).testBit i = (S.testBit i && !P.testBit i) := by
  have hb : ∀ j, P.testBit j = true → S.testBit j = true := by
    intro j hj
    rw [← h, Nat.testBit_and] at hj
    simp at hj
    exact hj.2
  have h1 : (S ^^^ P) &&& P = 0 := by
    apply Nat.eq_of_testBit_eq
    intro j
    rw [Nat.testBit_and, Nat.testBit_xor, Nat.zero_testBit]
    cases hp : P.testBit j with
    | false => simp
    | true => simp [hb j hp]
  have h2 : (S ^^^ P) ||| P = S := by
    apply Nat.eq_of_testBit_eq
    intro j
    rw [Nat.testBit_or, Nat.testBit_xor]
    cases hp : P.testBit j with
    | false => simp
    | true => simp [hb j hp]
  rw [dj_add h1] at h2
  have h3 : S - P = S ^^^ P := by omega
  rw [h3, Nat.testBit_xor]
  cases hp : P.testBit i with
  | false => simp
  | true => simp [hb i hp]
theorem wo_lt {S s : Nat} (h : S.testBit s = true) : wo S s < S := by
  have := wo_add h
  have := Nat.two_pow_pos s
  omega
/-! THE LEAST OF SOME -/
def NV : Int := 1073741824
def mnF (P : Nat → Bool) (f : Nat → Int) (x : Int) : Nat → Int
  | 0 => x
  | k + 1 => if P k = true then min (mnF P f x k) (f k) else mnF P f x k
theorem mnF_x (P : Nat → Bool) (f : Nat → Int) (x : Int) (n : Nat) : mnF P f x n ≤ x := by
  induction n with
  | zero => exact Int.le_refl x
  | succ k ih => unfold mnF; split <;> omega
theorem mnF_le {P : Nat → Bool} {f : Nat → Int} {x : Int} {n i : Nat} (hi : i < n) (hP : P i = true) : mnF P f x n ≤ f i := by
  induction n with
  | zero => omega
  | succ k ih =>
    unfold mnF
    by_cases h : i = k
    · subst h; rw [if_pos hP]; omega
    · have := ih (by omega)
      split <;> omega
theorem mnF_ex (P : Nat → Bool) (f : Nat → Int) (x : Int) (n : Nat) : mnF P f x n = x ∨ ∃ i, i < n ∧ P i = true ∧ mnF P f x n = f i := by
  induction n with
  | zero => exact Or.inl rfl
  | succ k ih =>
    unfold mnF
    split
    · rename_i h
      by_cases h1 : mnF P f x k ≤ f k
      · rw [Int.min_eq_left h1]
        rcases ih with ih | ⟨i, h2, h3, h4⟩
        · exact Or.inl ih
        · exact Or.inr ⟨i, by omega, h3, h4⟩
      · rw [Int.min_eq_right (by omega)]
        exact Or.inr ⟨k, by omega, h, rfl⟩
    · rcases ih with ih | ⟨i, h2, h3, h4⟩
      · exact Or.inl ih
      · exact Or.inr ⟨i, by omega, h3, h4⟩
/-! ROUNDS: what a vehicle that leaves at t0 does; Wy the ways, F La Sv first, last, service, bh the stops behind each one. A row of stops, the last one first. -/
section Rounds
variable (n : Nat) (Wy : Nat → Nat → Int) (F La Sv : Nat → Int) (t0 : Int) (bh : Nat → Nat)
def stp (s : Nat) (t : Int) : Option Int := if La s < t then none else some (max t (F s) + Sv s)
def rdy : List Nat → Option Int
  | [] => none
  | s :: r => match r with
    | [] => stp F La Sv s (t0 + Wy 7 s)
    | u :: _ => (rdy r).bind fun t => stp F La Sv s (t + Wy u s)
def lset : List Nat → Nat
  | [] => 0
  | s :: r => wi (lset r) s
def vld : List Nat → Prop
  | [] => True
  | s :: r => s < n ∧ (lset r).testBit s = false ∧ bh s &&& lset r = 0 ∧ vld r
/-- the first second at which one can be at s behind the set R, whose rows end at the seconds g -/
def thF (g : Nat → Int) (R s : Nat) : Int := mnF (fun i => R.testBit i) (fun i => g i + Wy i s) (if R = 0 then t0 + Wy 7 s else NV) n
/-- the class's row of the table -/
def rdF (T : Nat → Nat → Int) (S s : Nat) : Int :=
  if ¬ bh s &&& wo S s = 0 then NV
  else if La s < thF n Wy t0 (T (wo S s)) (wo S s) s then NV
  else max (thF n Wy t0 (T (wo S s)) (wo S s) s) (F s) + Sv s
theorem thF_0 (g : Nat → Int) (s : Nat) : thF n Wy t0 g 0 s = t0 + Wy 7 s := by
  unfold thF
  rcases mnF_ex (fun i => Nat.testBit 0 i) (fun i => g i + Wy i s) (if (0 : Nat) = 0 then t0 + Wy 7 s else NV) n with h | ⟨i, -, h, -⟩
  · rw [h, if_pos rfl]
  · simp at h
theorem thF_le (g : Nat → Int) {R s u : Nat} (hu : u < n) (hb : R.testBit u = true) : thF n Wy t0 g R s ≤ g u + Wy u s :=
  mnF_le (P := fun i => R.testBit i) (f := fun i => g i + Wy i s) hu hb
theorem thF_ex (g : Nat → Int) {R s : Nat} (h0 : ¬ R = 0) : thF n Wy t0 g R s = NV ∨ ∃ u, u < n ∧ R.testBit u = true ∧ thF n Wy t0 g R s = g u + Wy u s := by
  unfold thF
  rw [if_neg h0]
  exact mnF_ex (fun i => R.testBit i) (fun i => g i + Wy i s) NV n
theorem lset_ne {s : Nat} {r : List Nat} : lset (s :: r) ≠ 0 := by
  intro h
  have h1 : (lset (s :: r)).testBit s = true := by unfold lset; rw [wi_bit]; simp
  rw [h] at h1
  simp at h1
theorem lset_head {s : Nat} {r : List Nat} : (lset (s :: r)).testBit s = true := by unfold lset; rw [wi_bit]; simp
theorem lset_lt {r : List Nat} (h : vld n bh r) : ∀ t, (lset r).testBit t = true → t < n := by
  induction r with
  | nil => intro t ht; simp [lset] at ht
  | cons s r ih =>
    obtain ⟨h1, h2, h3, h4⟩ := h
    intro t ht
    unfold lset at ht
    rw [wi_bit] at ht
    by_cases h5 : s = t
    · omega
    · exact ih h4 t (by simpa [h5] using ht)
/-- what the table says is never too much -/
theorem rd_opt {T : Nat → Nat → Int} {M : Nat → Prop} (hM : ∀ S s, M S → S.testBit s = true → M (wo S s)) (hT : ∀ S s, M S → s < n → S.testBit s = true → T S s = rdF n Wy F La Sv t0 bh T S s)
    : ∀ (r : List Nat) (s : Nat) (t : Int), vld n bh (s :: r) → M (lset (s :: r)) → rdy Wy F La Sv t0 (s :: r) = some t → T (lset (s :: r)) s ≤ t := by
  intro r
  induction r with
  | nil =>
    intro s t hv hm ht
    obtain ⟨h1, h2, h3, h4⟩ := hv
    rw [hT _ s hm h1 lset_head]
    have e : wo (lset [s]) s = 0 := wo_wi h2
    simp only [rdy, stp] at ht
    unfold rdF
    rw [e, thF_0]
    by_cases h5 : La s < t0 + Wy 7 s
    · rw [if_pos h5] at ht; cases ht
    · rw [if_neg h5] at ht
      cases ht
      rw [if_neg (by simp), if_neg h5]
      exact Int.le_refl _
  | cons u r ih =>
    intro s t hv hm ht
    obtain ⟨h1, h2, h3, h4⟩ := hv
    rw [hT _ s hm h1 lset_head]
    have e : wo (lset (s :: u :: r)) s = lset (u :: r) := wo_wi h2
    rw [show rdy Wy F La Sv t0 (s :: u :: r) = (rdy Wy F La Sv t0 (u :: r)).bind fun t => stp F La Sv s (t + Wy u s) from rfl] at ht
    cases hr : rdy Wy F La Sv t0 (u :: r) with
    | none => rw [hr] at ht; cases ht
    | some t1 =>
      rw [hr] at ht
      have hi := ih u t1 h4 (by rw [← e]; exact hM _ s hm lset_head) hr
      simp only [Option.bind_some, stp] at ht
      by_cases h5 : La s < t1 + Wy u s
      · rw [if_pos h5] at ht; cases ht
      · rw [if_neg h5] at ht
        cases ht
        unfold rdF
        rw [e]
        have hmn := thF_le n Wy t0 (T (lset (u :: r))) (s := s) h4.1 (lset_head (s := u) (r := r))
        rw [if_neg (fun z => z h3), if_neg (by omega)]
        omega
/-- what the table says can be had -/
theorem rd_has {T : Nat → Nat → Int} {M : Nat → Prop} (hM : ∀ S s, M S → S.testBit s = true → M (wo S s)) (hn : ∀ S s, M S → S.testBit s = true → s < n) (hT : ∀ S s, M S → s < n → S.testBit s = true → T S s = rdF n Wy F La Sv t0 bh T S s)
    (hLa : ∀ s, s < n → La s < NV) (hW : ∀ a b, a < 8 → b < 8 → 0 ≤ Wy a b) (hn8 : n ≤ 7) : ∀ (k S s : Nat), S ≤ k → M S → S.testBit s = true → T S s < NV → ∃ r, vld n bh (s :: r) ∧ lset (s :: r) = S ∧ rdy Wy F La Sv t0 (s :: r) = some (T S s) := by
  intro k
  induction k with
  | zero =>
    intro S s hk _ hb
    have : S = 0 := by omega
    subst this
    simp at hb
  | succ k ih =>
    intro S s hk hm hb hlt
    have hs := hn S s hm hb
    rw [hT S s hm hs hb] at hlt ⊢
    unfold rdF at hlt ⊢
    by_cases h1 : bh s &&& wo S s = 0
    · rw [if_neg (fun z => z h1)] at hlt ⊢
      by_cases h2 : La s < thF n Wy t0 (T (wo S s)) (wo S s) s
      · rw [if_pos h2] at hlt; omega
      · rw [if_neg h2]
        have hwo : (wo S s).testBit s = false := by rw [wo_bit]; simp
        by_cases h0 : wo S s = 0
        · rw [h0, thF_0] at h2 ⊢
          refine ⟨[], ⟨hs, by simp [lset], by simp [lset], trivial⟩, ?_, ?_⟩
          · have := wi_wo hb
            rw [h0] at this
            exact this
          · simp only [rdy, stp, if_neg h2]
        · rcases thF_ex n Wy t0 (T (wo S s)) (s := s) h0 with h | ⟨u, hu, hub, h⟩
          · rw [h] at h2
            have := hLa s hs
            omega
          · have hT1 : T (wo S s) u < NV := by
              rw [h] at h2
              have := hLa s hs
              have := hW u s (by omega) (by omega)
              omega
            obtain ⟨r, v1, v2, v3⟩ := ih (wo S s) u (by have := wo_lt hb; omega) (hM S s hm hb) hub hT1
            refine ⟨u :: r, ⟨hs, by rw [v2]; exact hwo, by rw [v2]; exact h1, v1⟩, ?_, ?_⟩
            · show wi (lset (u :: r)) s = S
              rw [v2]; exact wi_wo hb
            · show (rdy Wy F La Sv t0 (u :: r)).bind (fun t => stp F La Sv s (t + Wy u s)) = _
              rw [v3]
              simp only [Option.bind_some, stp]
              rw [h] at h2 ⊢
              rw [if_neg h2]
    · rw [if_pos h1] at hlt; omega
end Rounds
