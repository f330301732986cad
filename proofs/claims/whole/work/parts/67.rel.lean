/-! THE LAW'S INVARIANT -/
theorem bd_zU {σ : Nat → Nat → Int} {c i k m : Nat} {v lo hi : Int} (h : bd σ k m lo hi) (hv : k = c → lo ≤ v ∧ v ≤ hi) : bd (zU σ c i v) k m lo hi := by
  intro j hj
  by_cases e : k = c
  · subst e
    by_cases e2 : j = i
    · subst e2; rw [zU_self]; exact hv rfl
    · rw [zU_nj e2]; exact h j hj
  · rw [zU_ne e]; exact h j hj
def RT (σ : Nat → Nat → Int) (n nv : Nat) : Prop := TT σ n nv ∧ (∀ i, i < 7 → σ 34 i = σ 3 i ∧ σ 36 i = σ 5 i ∧ σ 37 i = σ 6 i) ∧ (∀ i, n ≤ i → i < 7 → σ 4 i = 86399 ∧ σ 7 i = -1) ∧ RI σ n
def RB (σ : Nat → Nat → Int) : Prop := bd σ 18 384 0 1073741824 ∧ bd σ 19 896 0 1073741824 ∧ bd σ 20 896 (-1) 86399 ∧ bd σ 22 384 (-1125899906842624) 1152921504606846976 ∧ bd σ 23 128 0 1125899906842624 ∧ σ 23 0 = 0 ∧ bd σ 46 384 (-1) 150000 ∧ bd σ 47 384 0 2097151 ∧ bd σ 48 7 0 6 ∧ rwI σ
def RF (σ : Nat → Nat → Int) : Prop := ∃ fn fv : Nat, fn ≤ 7 ∧ fv ≤ 3 ∧ σ 25 0 = (fn : Int) ∧ σ 25 1 = (fv : Int) ∧ σ 32 19 = (fn : Int) ∧ σ 32 20 = (fv : Int) ∧ (σ 32 18 = 0 ∨ σ 32 18 = 1) ∧ σ 25 2 = (if σ 32 18 = 0 then -1 else σ 32 21) ∧ (∀ i, i < fn → σ 26 i = σ 49 i ∧ σ 27 i = σ 50 i) ∧ (∀ x, x < fv → σ 29 x = σ 52 x ∧ σ 30 x = σ 53 x ∧ σ 31 x = σ 54 x ∧ ∀ k : Nat, (k : Int) < σ 29 x → σ 28 (x * 7 + k) = ((d8 (σ 51 x).toNat k : Nat) : Int)) ∧ bd σ 29 3 0 7 ∧ bd σ 51 3 0 2097151 ∧ bd σ 52 3 0 7
def Rel (σ : Nat → Nat → Int) : Prop := ∃ n nv, RT σ n nv ∧ RB σ ∧ RF σ
theorem RB.congr {σ τ : Nat → Nat → Int} (h : RB σ) (e : ∀ k, (18 ≤ k ∧ k ≤ 31) ∨ 46 ≤ k → τ k = σ k) : RB τ := by
  unfold RB bd rwI at h ⊢
  rw [e 18 (by omega), e 19 (by omega), e 20 (by omega), e 22 (by omega), e 23 (by omega), e 46 (by omega), e 47 (by omega), e 48 (by omega)]
  exact h
theorem RF.congr {σ τ : Nat → Nat → Int} (h : RF σ) (e : ∀ k, (18 ≤ k ∧ k ≤ 31) ∨ 46 ≤ k → τ k = σ k) (e32 : ∀ j, j ≠ 0 → j ≠ 9 → τ 32 j = σ 32 j) : RF τ := by
  unfold RF bd at h ⊢
  rw [e 25 (by omega), e 26 (by omega), e 27 (by omega), e 28 (by omega), e 29 (by omega), e 30 (by omega), e 31 (by omega), e 49 (by omega), e 50 (by omega), e 51 (by omega), e 52 (by omega), e 53 (by omega), e 54 (by omega), e32 18 (by decide) (by decide), e32 19 (by decide) (by decide), e32 20 (by decide) (by decide), e32 21 (by decide) (by decide)]
  exact h
theorem t_stop {σ : Nat → Nat → Int} {n nv : Nat} (h : RT σ n nv) {k : Int} (hn : n < 7) (hk : 0 ≤ k ∧ k ≤ 100000) : RT (zU (zU (zU (zU (zU (zU σ 2 n k) 1 0 ((n : Int) + 1)) 33 n k) 35 n 86399) 38 n (-1)) 32 0 ((n : Int) + 1)) (n + 1) (nv) := by
  obtain ⟨⟨⟨t1, t1', t2, t2', t3, t4, t5, t6, t7, t8, t9, t10, t11, t12, t13, t14, t15, t16, t17⟩, ⟨m1, m1', m2, m2', m3, m4, m5, m6, m7, m8, m9, m10, m11, m12, m13, m14, m15⟩, p3, p4, p5, p6, p7, p8, p9, p10⟩, q1, q2, q3⟩ := h
  refine ⟨⟨⟨(by simp only [zU, Nat.reduceEqDiff, false_and, true_and, and_false, and_true, if_false, if_true, ↓reduceIte, reduceCtorEq]; omega), by omega, (by simp only [zU, Nat.reduceEqDiff, false_and, true_and, and_false, and_true, if_false, if_true, ↓reduceIte, reduceCtorEq]; exact t2), by omega, (by repeat (first | assumption | refine bd_zU ?_ (by omega))), (by repeat (first | assumption | refine bd_zU ?_ (by omega))), (by repeat (first | assumption | refine bd_zU ?_ (by omega))), (by repeat (first | assumption | refine bd_zU ?_ (by omega))), (by repeat (first | assumption | refine bd_zU ?_ (by omega))), (by repeat (first | assumption | refine bd_zU ?_ (by omega))), (by repeat (first | assumption | refine bd_zU ?_ (by omega))), (by repeat (first | assumption | refine bd_zU ?_ (by omega))), (by repeat (first | assumption | refine bd_zU ?_ (by omega))), (by repeat (first | assumption | refine bd_zU ?_ (by omega))), (by repeat (first | assumption | refine bd_zU ?_ (by omega))), (by repeat (first | assumption | refine bd_zU ?_ (by omega))), (by repeat (first | assumption | refine bd_zU ?_ (by omega))), (by repeat (first | assumption | refine bd_zU ?_ (by omega))), (by repeat (first | assumption | refine bd_zU ?_ (by omega)))⟩, ⟨(by simp only [zU, Nat.reduceEqDiff, false_and, true_and, and_false, and_true, if_false, if_true, ↓reduceIte, reduceCtorEq]; omega), by omega, (by simp only [zU, Nat.reduceEqDiff, false_and, true_and, and_false, and_true, if_false, if_true, ↓reduceIte, reduceCtorEq]; exact m2), by omega, (by repeat (first | assumption | refine bd_zU ?_ (by omega))), (by repeat (first | assumption | refine bd_zU ?_ (by omega))), (by repeat (first | assumption | refine bd_zU ?_ (by omega))), (by repeat (first | assumption | refine bd_zU ?_ (by omega))), (by repeat (first | assumption | refine bd_zU ?_ (by omega))), (by repeat (first | assumption | refine bd_zU ?_ (by omega))), (by repeat (first | assumption | refine bd_zU ?_ (by omega))), (by repeat (first | assumption | refine bd_zU ?_ (by omega))), (by repeat (first | assumption | refine bd_zU ?_ (by omega))), (by repeat (first | assumption | refine bd_zU ?_ (by omega))), (by repeat (first | assumption | refine bd_zU ?_ (by omega))), (by repeat (first | assumption | refine bd_zU ?_ (by omega))), (by repeat (first | assumption | refine bd_zU ?_ (by omega)))⟩, ?_, ?_, ?_, ?_, ?_, ?_, ?_, ?_⟩, ?_, ?_, ?_⟩
  · intro i hi
    simp only [zU, Nat.reduceEqDiff, false_and, true_and, and_false, and_true, if_false, if_true, ↓reduceIte, reduceCtorEq]
    by_cases e : i = n
    · subst e
      simp only [if_true]
      obtain ⟨a1, a2, a3⟩ := q1 i (by omega)
      obtain ⟨a4, a5⟩ := q2 i (Nat.le_refl i) (by omega)
      exact ⟨trivial, a1, a4.symm, a2, a3, a5.symm⟩
    · simp only [if_neg e]
      exact p3 i (by omega)
  · simp only [zU, Nat.reduceEqDiff, false_and, true_and, and_false, and_true, if_false, if_true, ↓reduceIte, reduceCtorEq]
    exact p4
  · simp only [zU, Nat.reduceEqDiff, false_and, true_and, and_false, and_true, if_false, if_true, ↓reduceIte, reduceCtorEq]
    exact p5
  · simp only [zU, Nat.reduceEqDiff, false_and, true_and, and_false, and_true, if_false, if_true, ↓reduceIte, reduceCtorEq]
    exact p6
  · simp only [zU, Nat.reduceEqDiff, false_and, true_and, and_false, and_true, if_false, if_true, ↓reduceIte, reduceCtorEq]
    exact p7
  · simp only [zU, Nat.reduceEqDiff, false_and, true_and, and_false, and_true, if_false, if_true, ↓reduceIte, reduceCtorEq]
    exact p8
  · simp only [zU, Nat.reduceEqDiff, false_and, true_and, and_false, and_true, if_false, if_true, ↓reduceIte, reduceCtorEq]
    exact p9
  · simp only [zU, Nat.reduceEqDiff, false_and, true_and, and_false, and_true, if_false, if_true, ↓reduceIte, reduceCtorEq]
    exact p10
  · simp only [zU, Nat.reduceEqDiff, false_and, true_and, and_false, and_true, if_false, if_true, ↓reduceIte, reduceCtorEq]
    exact q1
  · intro i hi hi7
    simp only [zU, Nat.reduceEqDiff, false_and, true_and, and_false, and_true, if_false, if_true, ↓reduceIte, reduceCtorEq]
    exact q2 i (by omega) hi7
  · exact (q3.mono (by omega)).congr (by funext j; simp only [zU, Nat.reduceEqDiff, false_and, true_and, and_false, and_true, if_false, if_true, ↓reduceIte, reduceCtorEq]) (by funext j; simp only [zU, Nat.reduceEqDiff, false_and, true_and, and_false, and_true, if_false, if_true, ↓reduceIte, reduceCtorEq])
theorem t_hours {σ : Nat → Nat → Int} {n nv : Nat} (h : RT σ n nv) {k : Nat} {f g q : Int} (hk : k < n) (hf : 0 ≤ f ∧ f ≤ g ∧ g ≤ 86399) (hq : 0 ≤ q ∧ q ≤ 10000) : RT (zU (zU (zU (zU (zU (zU σ 3 k f) 4 k g) 5 k q) 34 k f) 35 k g) 36 k q) (n) (nv) := by
  obtain ⟨⟨⟨t1, t1', t2, t2', t3, t4, t5, t6, t7, t8, t9, t10, t11, t12, t13, t14, t15, t16, t17⟩, ⟨m1, m1', m2, m2', m3, m4, m5, m6, m7, m8, m9, m10, m11, m12, m13, m14, m15⟩, p3, p4, p5, p6, p7, p8, p9, p10⟩, q1, q2, q3⟩ := h
  refine ⟨⟨⟨(by simp only [zU, Nat.reduceEqDiff, false_and, true_and, and_false, and_true, if_false, if_true, ↓reduceIte, reduceCtorEq]; exact t1), by omega, (by simp only [zU, Nat.reduceEqDiff, false_and, true_and, and_false, and_true, if_false, if_true, ↓reduceIte, reduceCtorEq]; exact t2), by omega, (by repeat (first | assumption | refine bd_zU ?_ (by omega))), (by repeat (first | assumption | refine bd_zU ?_ (by omega))), (by repeat (first | assumption | refine bd_zU ?_ (by omega))), (by repeat (first | assumption | refine bd_zU ?_ (by omega))), (by repeat (first | assumption | refine bd_zU ?_ (by omega))), (by repeat (first | assumption | refine bd_zU ?_ (by omega))), (by repeat (first | assumption | refine bd_zU ?_ (by omega))), (by repeat (first | assumption | refine bd_zU ?_ (by omega))), (by repeat (first | assumption | refine bd_zU ?_ (by omega))), (by repeat (first | assumption | refine bd_zU ?_ (by omega))), (by repeat (first | assumption | refine bd_zU ?_ (by omega))), (by repeat (first | assumption | refine bd_zU ?_ (by omega))), (by repeat (first | assumption | refine bd_zU ?_ (by omega))), (by repeat (first | assumption | refine bd_zU ?_ (by omega))), (by repeat (first | assumption | refine bd_zU ?_ (by omega)))⟩, ⟨(by simp only [zU, Nat.reduceEqDiff, false_and, true_and, and_false, and_true, if_false, if_true, ↓reduceIte, reduceCtorEq]; exact m1), by omega, (by simp only [zU, Nat.reduceEqDiff, false_and, true_and, and_false, and_true, if_false, if_true, ↓reduceIte, reduceCtorEq]; exact m2), by omega, (by repeat (first | assumption | refine bd_zU ?_ (by omega))), (by repeat (first | assumption | refine bd_zU ?_ (by omega))), (by repeat (first | assumption | refine bd_zU ?_ (by omega))), (by repeat (first | assumption | refine bd_zU ?_ (by omega))), (by repeat (first | assumption | refine bd_zU ?_ (by omega))), (by repeat (first | assumption | refine bd_zU ?_ (by omega))), (by repeat (first | assumption | refine bd_zU ?_ (by omega))), (by repeat (first | assumption | refine bd_zU ?_ (by omega))), (by repeat (first | assumption | refine bd_zU ?_ (by omega))), (by repeat (first | assumption | refine bd_zU ?_ (by omega))), (by repeat (first | assumption | refine bd_zU ?_ (by omega))), (by repeat (first | assumption | refine bd_zU ?_ (by omega))), (by repeat (first | assumption | refine bd_zU ?_ (by omega)))⟩, ?_, ?_, ?_, ?_, ?_, ?_, ?_, ?_⟩, ?_, ?_, ?_⟩
  · intro i hi
    simp only [zU, Nat.reduceEqDiff, false_and, true_and, and_false, and_true, if_false, if_true, ↓reduceIte, reduceCtorEq]
    by_cases e : i = k
    · subst e
      simp only [if_true]
      obtain ⟨a1, a2, a3, a4, a5, a6⟩ := p3 i hi
      exact ⟨a1, trivial, trivial, trivial, a5, a6⟩
    · simp only [if_neg e]
      exact p3 i hi
  · simp only [zU, Nat.reduceEqDiff, false_and, true_and, and_false, and_true, if_false, if_true, ↓reduceIte, reduceCtorEq]
    exact p4
  · simp only [zU, Nat.reduceEqDiff, false_and, true_and, and_false, and_true, if_false, if_true, ↓reduceIte, reduceCtorEq]
    exact p5
  · simp only [zU, Nat.reduceEqDiff, false_and, true_and, and_false, and_true, if_false, if_true, ↓reduceIte, reduceCtorEq]
    exact p6
  · simp only [zU, Nat.reduceEqDiff, false_and, true_and, and_false, and_true, if_false, if_true, ↓reduceIte, reduceCtorEq]
    exact p7
  · simp only [zU, Nat.reduceEqDiff, false_and, true_and, and_false, and_true, if_false, if_true, ↓reduceIte, reduceCtorEq]
    exact p8
  · simp only [zU, Nat.reduceEqDiff, false_and, true_and, and_false, and_true, if_false, if_true, ↓reduceIte, reduceCtorEq]
    exact p9
  · simp only [zU, Nat.reduceEqDiff, false_and, true_and, and_false, and_true, if_false, if_true, ↓reduceIte, reduceCtorEq]
    exact p10
  · intro i hi
    simp only [zU, Nat.reduceEqDiff, false_and, true_and, and_false, and_true, if_false, if_true, ↓reduceIte, reduceCtorEq]
    by_cases e : i = k
    · subst e
      simp only [if_true]
      exact ⟨trivial, trivial, (q1 i hi).2.2⟩
    · simp only [if_neg e]
      exact q1 i hi
  · intro i hi hi7
    simp only [zU, Nat.reduceEqDiff, false_and, true_and, and_false, and_true, if_false, if_true, ↓reduceIte, reduceCtorEq]
    rw [if_neg (show ¬ i = k by omega)]
    exact q2 i hi hi7
  · exact q3.congr (by funext j; simp only [zU, Nat.reduceEqDiff, false_and, true_and, and_false, and_true, if_false, if_true, ↓reduceIte, reduceCtorEq]) (by funext j; simp only [zU, Nat.reduceEqDiff, false_and, true_and, and_false, and_true, if_false, if_true, ↓reduceIte, reduceCtorEq])
theorem t_penalty {σ : Nat → Nat → Int} {n nv : Nat} (h : RT σ n nv) {k : Nat} {c : Int} (hk : k < n) (hc : 0 ≤ c ∧ c ≤ 1000000000) : RT (zU (zU σ 6 k c) 37 k c) (n) (nv) := by
  obtain ⟨⟨⟨t1, t1', t2, t2', t3, t4, t5, t6, t7, t8, t9, t10, t11, t12, t13, t14, t15, t16, t17⟩, ⟨m1, m1', m2, m2', m3, m4, m5, m6, m7, m8, m9, m10, m11, m12, m13, m14, m15⟩, p3, p4, p5, p6, p7, p8, p9, p10⟩, q1, q2, q3⟩ := h
  refine ⟨⟨⟨(by simp only [zU, Nat.reduceEqDiff, false_and, true_and, and_false, and_true, if_false, if_true, ↓reduceIte, reduceCtorEq]; exact t1), by omega, (by simp only [zU, Nat.reduceEqDiff, false_and, true_and, and_false, and_true, if_false, if_true, ↓reduceIte, reduceCtorEq]; exact t2), by omega, (by repeat (first | assumption | refine bd_zU ?_ (by omega))), (by repeat (first | assumption | refine bd_zU ?_ (by omega))), (by repeat (first | assumption | refine bd_zU ?_ (by omega))), (by repeat (first | assumption | refine bd_zU ?_ (by omega))), (by repeat (first | assumption | refine bd_zU ?_ (by omega))), (by repeat (first | assumption | refine bd_zU ?_ (by omega))), (by repeat (first | assumption | refine bd_zU ?_ (by omega))), (by repeat (first | assumption | refine bd_zU ?_ (by omega))), (by repeat (first | assumption | refine bd_zU ?_ (by omega))), (by repeat (first | assumption | refine bd_zU ?_ (by omega))), (by repeat (first | assumption | refine bd_zU ?_ (by omega))), (by repeat (first | assumption | refine bd_zU ?_ (by omega))), (by repeat (first | assumption | refine bd_zU ?_ (by omega))), (by repeat (first | assumption | refine bd_zU ?_ (by omega))), (by repeat (first | assumption | refine bd_zU ?_ (by omega)))⟩, ⟨(by simp only [zU, Nat.reduceEqDiff, false_and, true_and, and_false, and_true, if_false, if_true, ↓reduceIte, reduceCtorEq]; exact m1), by omega, (by simp only [zU, Nat.reduceEqDiff, false_and, true_and, and_false, and_true, if_false, if_true, ↓reduceIte, reduceCtorEq]; exact m2), by omega, (by repeat (first | assumption | refine bd_zU ?_ (by omega))), (by repeat (first | assumption | refine bd_zU ?_ (by omega))), (by repeat (first | assumption | refine bd_zU ?_ (by omega))), (by repeat (first | assumption | refine bd_zU ?_ (by omega))), (by repeat (first | assumption | refine bd_zU ?_ (by omega))), (by repeat (first | assumption | refine bd_zU ?_ (by omega))), (by repeat (first | assumption | refine bd_zU ?_ (by omega))), (by repeat (first | assumption | refine bd_zU ?_ (by omega))), (by repeat (first | assumption | refine bd_zU ?_ (by omega))), (by repeat (first | assumption | refine bd_zU ?_ (by omega))), (by repeat (first | assumption | refine bd_zU ?_ (by omega))), (by repeat (first | assumption | refine bd_zU ?_ (by omega))), (by repeat (first | assumption | refine bd_zU ?_ (by omega)))⟩, ?_, ?_, ?_, ?_, ?_, ?_, ?_, ?_⟩, ?_, ?_, ?_⟩
  · intro i hi
    simp only [zU, Nat.reduceEqDiff, false_and, true_and, and_false, and_true, if_false, if_true, ↓reduceIte, reduceCtorEq]
    by_cases e : i = k
    · subst e
      simp only [if_true]
      obtain ⟨a1, a2, a3, a4, a5, a6⟩ := p3 i hi
      exact ⟨a1, a2, a3, a4, trivial, a6⟩
    · simp only [if_neg e]
      exact p3 i hi
  · simp only [zU, Nat.reduceEqDiff, false_and, true_and, and_false, and_true, if_false, if_true, ↓reduceIte, reduceCtorEq]
    exact p4
  · simp only [zU, Nat.reduceEqDiff, false_and, true_and, and_false, and_true, if_false, if_true, ↓reduceIte, reduceCtorEq]
    exact p5
  · simp only [zU, Nat.reduceEqDiff, false_and, true_and, and_false, and_true, if_false, if_true, ↓reduceIte, reduceCtorEq]
    exact p6
  · simp only [zU, Nat.reduceEqDiff, false_and, true_and, and_false, and_true, if_false, if_true, ↓reduceIte, reduceCtorEq]
    exact p7
  · simp only [zU, Nat.reduceEqDiff, false_and, true_and, and_false, and_true, if_false, if_true, ↓reduceIte, reduceCtorEq]
    exact p8
  · simp only [zU, Nat.reduceEqDiff, false_and, true_and, and_false, and_true, if_false, if_true, ↓reduceIte, reduceCtorEq]
    exact p9
  · simp only [zU, Nat.reduceEqDiff, false_and, true_and, and_false, and_true, if_false, if_true, ↓reduceIte, reduceCtorEq]
    exact p10
  · intro i hi
    simp only [zU, Nat.reduceEqDiff, false_and, true_and, and_false, and_true, if_false, if_true, ↓reduceIte, reduceCtorEq]
    by_cases e : i = k
    · subst e
      simp only [if_true]
      exact ⟨(q1 i hi).1, (q1 i hi).2.1, trivial⟩
    · simp only [if_neg e]
      exact q1 i hi
  · simp only [zU, Nat.reduceEqDiff, false_and, true_and, and_false, and_true, if_false, if_true, ↓reduceIte, reduceCtorEq]
    exact q2
  · exact q3.congr (by funext j; simp only [zU, Nat.reduceEqDiff, false_and, true_and, and_false, and_true, if_false, if_true, ↓reduceIte, reduceCtorEq]) (by funext j; simp only [zU, Nat.reduceEqDiff, false_and, true_and, and_false, and_true, if_false, if_true, ↓reduceIte, reduceCtorEq])
theorem t_vehicle {σ : Nat → Nat → Int} {n nv : Nat} (h : RT σ n nv) {a b d r : Int} (hv : nv < 3) (ha : 0 ≤ a ∧ a ≤ 1000000) (hb : 0 ≤ b ∧ b ≤ d ∧ d ≤ 86399) (hr : 0 ≤ r ∧ r ≤ 1000) : RT (zU (zU (zU (zU (zU (zU (zU (zU (zU (zU σ 12 nv a) 13 nv b) 14 nv d) 15 nv r) 1 1 ((nv : Int) + 1)) 41 nv a) 42 nv b) 43 nv d) 44 nv r) 32 9 ((nv : Int) + 1)) (n) (nv + 1) := by
  obtain ⟨⟨⟨t1, t1', t2, t2', t3, t4, t5, t6, t7, t8, t9, t10, t11, t12, t13, t14, t15, t16, t17⟩, ⟨m1, m1', m2, m2', m3, m4, m5, m6, m7, m8, m9, m10, m11, m12, m13, m14, m15⟩, p3, p4, p5, p6, p7, p8, p9, p10⟩, q1, q2, q3⟩ := h
  refine ⟨⟨⟨(by simp only [zU, Nat.reduceEqDiff, false_and, true_and, and_false, and_true, if_false, if_true, ↓reduceIte, reduceCtorEq]; exact t1), by omega, (by simp only [zU, Nat.reduceEqDiff, false_and, true_and, and_false, and_true, if_false, if_true, ↓reduceIte, reduceCtorEq]; omega), by omega, (by repeat (first | assumption | refine bd_zU ?_ (by omega))), (by repeat (first | assumption | refine bd_zU ?_ (by omega))), (by repeat (first | assumption | refine bd_zU ?_ (by omega))), (by repeat (first | assumption | refine bd_zU ?_ (by omega))), (by repeat (first | assumption | refine bd_zU ?_ (by omega))), (by repeat (first | assumption | refine bd_zU ?_ (by omega))), (by repeat (first | assumption | refine bd_zU ?_ (by omega))), (by repeat (first | assumption | refine bd_zU ?_ (by omega))), (by repeat (first | assumption | refine bd_zU ?_ (by omega))), (by repeat (first | assumption | refine bd_zU ?_ (by omega))), (by repeat (first | assumption | refine bd_zU ?_ (by omega))), (by repeat (first | assumption | refine bd_zU ?_ (by omega))), (by repeat (first | assumption | refine bd_zU ?_ (by omega))), (by repeat (first | assumption | refine bd_zU ?_ (by omega))), (by repeat (first | assumption | refine bd_zU ?_ (by omega)))⟩, ⟨(by simp only [zU, Nat.reduceEqDiff, false_and, true_and, and_false, and_true, if_false, if_true, ↓reduceIte, reduceCtorEq]; exact m1), by omega, (by simp only [zU, Nat.reduceEqDiff, false_and, true_and, and_false, and_true, if_false, if_true, ↓reduceIte, reduceCtorEq]; omega), by omega, (by repeat (first | assumption | refine bd_zU ?_ (by omega))), (by repeat (first | assumption | refine bd_zU ?_ (by omega))), (by repeat (first | assumption | refine bd_zU ?_ (by omega))), (by repeat (first | assumption | refine bd_zU ?_ (by omega))), (by repeat (first | assumption | refine bd_zU ?_ (by omega))), (by repeat (first | assumption | refine bd_zU ?_ (by omega))), (by repeat (first | assumption | refine bd_zU ?_ (by omega))), (by repeat (first | assumption | refine bd_zU ?_ (by omega))), (by repeat (first | assumption | refine bd_zU ?_ (by omega))), (by repeat (first | assumption | refine bd_zU ?_ (by omega))), (by repeat (first | assumption | refine bd_zU ?_ (by omega))), (by repeat (first | assumption | refine bd_zU ?_ (by omega))), (by repeat (first | assumption | refine bd_zU ?_ (by omega)))⟩, ?_, ?_, ?_, ?_, ?_, ?_, ?_, ?_⟩, ?_, ?_, ?_⟩
  · simp only [zU, Nat.reduceEqDiff, false_and, true_and, and_false, and_true, if_false, if_true, ↓reduceIte, reduceCtorEq]
    exact p3
  · intro i hi
    simp only [zU, Nat.reduceEqDiff, false_and, true_and, and_false, and_true, if_false, if_true, ↓reduceIte, reduceCtorEq]
    by_cases e : i = nv
    · subst e
      simp only [if_true]
      exact ⟨trivial, trivial, trivial, trivial⟩
    · simp only [if_neg e]
      exact p4 i (by omega)
  · simp only [zU, Nat.reduceEqDiff, false_and, true_and, and_false, and_true, if_false, if_true, ↓reduceIte, reduceCtorEq]
    exact p5
  · simp only [zU, Nat.reduceEqDiff, false_and, true_and, and_false, and_true, if_false, if_true, ↓reduceIte, reduceCtorEq]
    exact p6
  · simp only [zU, Nat.reduceEqDiff, false_and, true_and, and_false, and_true, if_false, if_true, ↓reduceIte, reduceCtorEq]
    exact p7
  · simp only [zU, Nat.reduceEqDiff, false_and, true_and, and_false, and_true, if_false, if_true, ↓reduceIte, reduceCtorEq]
    exact p8
  · simp only [zU, Nat.reduceEqDiff, false_and, true_and, and_false, and_true, if_false, if_true, ↓reduceIte, reduceCtorEq]
    exact p9
  · simp only [zU, Nat.reduceEqDiff, false_and, true_and, and_false, and_true, if_false, if_true, ↓reduceIte, reduceCtorEq]
    exact p10
  · simp only [zU, Nat.reduceEqDiff, false_and, true_and, and_false, and_true, if_false, if_true, ↓reduceIte, reduceCtorEq]
    exact q1
  · simp only [zU, Nat.reduceEqDiff, false_and, true_and, and_false, and_true, if_false, if_true, ↓reduceIte, reduceCtorEq]
    exact q2
  · exact q3.congr (by funext j; simp only [zU, Nat.reduceEqDiff, false_and, true_and, and_false, and_true, if_false, if_true, ↓reduceIte, reduceCtorEq]) (by funext j; simp only [zU, Nat.reduceEqDiff, false_and, true_and, and_false, and_true, if_false, if_true, ↓reduceIte, reduceCtorEq])
theorem t_way {σ : Nat → Nat → Int} {n nv : Nat} (h : RT σ n nv) {k : Nat} {q : Int} (hq : 0 ≤ q ∧ q ≤ 50000) : RT (zU (zU σ 16 k q) 45 k q) (n) (nv) := by
  obtain ⟨⟨⟨t1, t1', t2, t2', t3, t4, t5, t6, t7, t8, t9, t10, t11, t12, t13, t14, t15, t16, t17⟩, ⟨m1, m1', m2, m2', m3, m4, m5, m6, m7, m8, m9, m10, m11, m12, m13, m14, m15⟩, p3, p4, p5, p6, p7, p8, p9, p10⟩, q1, q2, q3⟩ := h
  refine ⟨⟨⟨(by simp only [zU, Nat.reduceEqDiff, false_and, true_and, and_false, and_true, if_false, if_true, ↓reduceIte, reduceCtorEq]; exact t1), by omega, (by simp only [zU, Nat.reduceEqDiff, false_and, true_and, and_false, and_true, if_false, if_true, ↓reduceIte, reduceCtorEq]; exact t2), by omega, (by repeat (first | assumption | refine bd_zU ?_ (by omega))), (by repeat (first | assumption | refine bd_zU ?_ (by omega))), (by repeat (first | assumption | refine bd_zU ?_ (by omega))), (by repeat (first | assumption | refine bd_zU ?_ (by omega))), (by repeat (first | assumption | refine bd_zU ?_ (by omega))), (by repeat (first | assumption | refine bd_zU ?_ (by omega))), (by repeat (first | assumption | refine bd_zU ?_ (by omega))), (by repeat (first | assumption | refine bd_zU ?_ (by omega))), (by repeat (first | assumption | refine bd_zU ?_ (by omega))), (by repeat (first | assumption | refine bd_zU ?_ (by omega))), (by repeat (first | assumption | refine bd_zU ?_ (by omega))), (by repeat (first | assumption | refine bd_zU ?_ (by omega))), (by repeat (first | assumption | refine bd_zU ?_ (by omega))), (by repeat (first | assumption | refine bd_zU ?_ (by omega))), (by repeat (first | assumption | refine bd_zU ?_ (by omega)))⟩, ⟨(by simp only [zU, Nat.reduceEqDiff, false_and, true_and, and_false, and_true, if_false, if_true, ↓reduceIte, reduceCtorEq]; exact m1), by omega, (by simp only [zU, Nat.reduceEqDiff, false_and, true_and, and_false, and_true, if_false, if_true, ↓reduceIte, reduceCtorEq]; exact m2), by omega, (by repeat (first | assumption | refine bd_zU ?_ (by omega))), (by repeat (first | assumption | refine bd_zU ?_ (by omega))), (by repeat (first | assumption | refine bd_zU ?_ (by omega))), (by repeat (first | assumption | refine bd_zU ?_ (by omega))), (by repeat (first | assumption | refine bd_zU ?_ (by omega))), (by repeat (first | assumption | refine bd_zU ?_ (by omega))), (by repeat (first | assumption | refine bd_zU ?_ (by omega))), (by repeat (first | assumption | refine bd_zU ?_ (by omega))), (by repeat (first | assumption | refine bd_zU ?_ (by omega))), (by repeat (first | assumption | refine bd_zU ?_ (by omega))), (by repeat (first | assumption | refine bd_zU ?_ (by omega))), (by repeat (first | assumption | refine bd_zU ?_ (by omega))), (by repeat (first | assumption | refine bd_zU ?_ (by omega)))⟩, ?_, ?_, ?_, ?_, ?_, ?_, ?_, ?_⟩, ?_, ?_, ?_⟩
  · simp only [zU, Nat.reduceEqDiff, false_and, true_and, and_false, and_true, if_false, if_true, ↓reduceIte, reduceCtorEq]
    exact p3
  · simp only [zU, Nat.reduceEqDiff, false_and, true_and, and_false, and_true, if_false, if_true, ↓reduceIte, reduceCtorEq]
    exact p4
  · intro i hi
    simp only [zU, Nat.reduceEqDiff, false_and, true_and, and_false, and_true, if_false, if_true, ↓reduceIte, reduceCtorEq]
    by_cases e : i = k
    · subst e
      simp only [if_true]
    · simp only [if_neg e]
      exact p5 i hi
  · simp only [zU, Nat.reduceEqDiff, false_and, true_and, and_false, and_true, if_false, if_true, ↓reduceIte, reduceCtorEq]
    exact p6
  · simp only [zU, Nat.reduceEqDiff, false_and, true_and, and_false, and_true, if_false, if_true, ↓reduceIte, reduceCtorEq]
    exact p7
  · simp only [zU, Nat.reduceEqDiff, false_and, true_and, and_false, and_true, if_false, if_true, ↓reduceIte, reduceCtorEq]
    exact p8
  · simp only [zU, Nat.reduceEqDiff, false_and, true_and, and_false, and_true, if_false, if_true, ↓reduceIte, reduceCtorEq]
    exact p9
  · simp only [zU, Nat.reduceEqDiff, false_and, true_and, and_false, and_true, if_false, if_true, ↓reduceIte, reduceCtorEq]
    exact p10
  · simp only [zU, Nat.reduceEqDiff, false_and, true_and, and_false, and_true, if_false, if_true, ↓reduceIte, reduceCtorEq]
    exact q1
  · simp only [zU, Nat.reduceEqDiff, false_and, true_and, and_false, and_true, if_false, if_true, ↓reduceIte, reduceCtorEq]
    exact q2
  · exact q3.congr (by funext j; simp only [zU, Nat.reduceEqDiff, false_and, true_and, and_false, and_true, if_false, if_true, ↓reduceIte, reduceCtorEq]) (by funext j; simp only [zU, Nat.reduceEqDiff, false_and, true_and, and_false, and_true, if_false, if_true, ↓reduceIte, reduceCtorEq])
theorem t_fixed {σ : Nat → Nat → Int} {n nv : Nat} (h : RT σ n nv) {k : Nat} {v : Int} (hk : k < n) (hv : -1 ≤ v ∧ v < nv) : RT (zU (zU σ 7 k v) 38 k v) (n) (nv) := by
  obtain ⟨⟨⟨t1, t1', t2, t2', t3, t4, t5, t6, t7, t8, t9, t10, t11, t12, t13, t14, t15, t16, t17⟩, ⟨m1, m1', m2, m2', m3, m4, m5, m6, m7, m8, m9, m10, m11, m12, m13, m14, m15⟩, p3, p4, p5, p6, p7, p8, p9, p10⟩, q1, q2, q3⟩ := h
  refine ⟨⟨⟨(by simp only [zU, Nat.reduceEqDiff, false_and, true_and, and_false, and_true, if_false, if_true, ↓reduceIte, reduceCtorEq]; exact t1), by omega, (by simp only [zU, Nat.reduceEqDiff, false_and, true_and, and_false, and_true, if_false, if_true, ↓reduceIte, reduceCtorEq]; exact t2), by omega, (by repeat (first | assumption | refine bd_zU ?_ (by omega))), (by repeat (first | assumption | refine bd_zU ?_ (by omega))), (by repeat (first | assumption | refine bd_zU ?_ (by omega))), (by repeat (first | assumption | refine bd_zU ?_ (by omega))), (by repeat (first | assumption | refine bd_zU ?_ (by omega))), (by repeat (first | assumption | refine bd_zU ?_ (by omega))), (by repeat (first | assumption | refine bd_zU ?_ (by omega))), (by repeat (first | assumption | refine bd_zU ?_ (by omega))), (by repeat (first | assumption | refine bd_zU ?_ (by omega))), (by repeat (first | assumption | refine bd_zU ?_ (by omega))), (by repeat (first | assumption | refine bd_zU ?_ (by omega))), (by repeat (first | assumption | refine bd_zU ?_ (by omega))), (by repeat (first | assumption | refine bd_zU ?_ (by omega))), (by repeat (first | assumption | refine bd_zU ?_ (by omega))), (by repeat (first | assumption | refine bd_zU ?_ (by omega)))⟩, ⟨(by simp only [zU, Nat.reduceEqDiff, false_and, true_and, and_false, and_true, if_false, if_true, ↓reduceIte, reduceCtorEq]; exact m1), by omega, (by simp only [zU, Nat.reduceEqDiff, false_and, true_and, and_false, and_true, if_false, if_true, ↓reduceIte, reduceCtorEq]; exact m2), by omega, (by repeat (first | assumption | refine bd_zU ?_ (by omega))), (by repeat (first | assumption | refine bd_zU ?_ (by omega))), (by repeat (first | assumption | refine bd_zU ?_ (by omega))), (by repeat (first | assumption | refine bd_zU ?_ (by omega))), (by repeat (first | assumption | refine bd_zU ?_ (by omega))), (by repeat (first | assumption | refine bd_zU ?_ (by omega))), (by repeat (first | assumption | refine bd_zU ?_ (by omega))), (by repeat (first | assumption | refine bd_zU ?_ (by omega))), (by repeat (first | assumption | refine bd_zU ?_ (by omega))), (by repeat (first | assumption | refine bd_zU ?_ (by omega))), (by repeat (first | assumption | refine bd_zU ?_ (by omega))), (by repeat (first | assumption | refine bd_zU ?_ (by omega))), (by repeat (first | assumption | refine bd_zU ?_ (by omega)))⟩, ?_, ?_, ?_, ?_, ?_, ?_, ?_, ?_⟩, ?_, ?_, ?_⟩
  · intro i hi
    simp only [zU, Nat.reduceEqDiff, false_and, true_and, and_false, and_true, if_false, if_true, ↓reduceIte, reduceCtorEq]
    by_cases e : i = k
    · subst e
      simp only [if_true]
      obtain ⟨a1, a2, a3, a4, a5, a6⟩ := p3 i hi
      exact ⟨a1, a2, a3, a4, a5, trivial⟩
    · simp only [if_neg e]
      exact p3 i hi
  · simp only [zU, Nat.reduceEqDiff, false_and, true_and, and_false, and_true, if_false, if_true, ↓reduceIte, reduceCtorEq]
    exact p4
  · simp only [zU, Nat.reduceEqDiff, false_and, true_and, and_false, and_true, if_false, if_true, ↓reduceIte, reduceCtorEq]
    exact p5
  · simp only [zU, Nat.reduceEqDiff, false_and, true_and, and_false, and_true, if_false, if_true, ↓reduceIte, reduceCtorEq]
    exact p6
  · simp only [zU, Nat.reduceEqDiff, false_and, true_and, and_false, and_true, if_false, if_true, ↓reduceIte, reduceCtorEq]
    exact p7
  · simp only [zU, Nat.reduceEqDiff, false_and, true_and, and_false, and_true, if_false, if_true, ↓reduceIte, reduceCtorEq]
    exact p8
  · simp only [zU, Nat.reduceEqDiff, false_and, true_and, and_false, and_true, if_false, if_true, ↓reduceIte, reduceCtorEq]
    exact p9
  · simp only [zU, Nat.reduceEqDiff, false_and, true_and, and_false, and_true, if_false, if_true, ↓reduceIte, reduceCtorEq]
    exact p10
  · simp only [zU, Nat.reduceEqDiff, false_and, true_and, and_false, and_true, if_false, if_true, ↓reduceIte, reduceCtorEq]
    exact q1
  · intro i hi hi7
    simp only [zU, Nat.reduceEqDiff, false_and, true_and, and_false, and_true, if_false, if_true, ↓reduceIte, reduceCtorEq]
    rw [if_neg (show ¬ i = k by omega)]
    exact q2 i hi hi7
  · exact q3.congr (by funext j; simp only [zU, Nat.reduceEqDiff, false_and, true_and, and_false, and_true, if_false, if_true, ↓reduceIte, reduceCtorEq]) (by funext j; simp only [zU, Nat.reduceEqDiff, false_and, true_and, and_false, and_true, if_false, if_true, ↓reduceIte, reduceCtorEq])
theorem apF_lt {t : Int} {S s : Nat} (hS : S < 128) (hs : s < 7) : apF t S s < 128 := by
  unfold apF
  split
  · exact wi_128 hS hs
  · exact wo_128 hS hs
theorem apF_bit {t : Int} {S s i : Nat} : (apF t S s).testBit i = if s = i then decide (t ≠ 0) else S.testBit i := by
  unfold apF
  by_cases h : t ≠ 0
  · rw [if_pos h, wi_bit]
    by_cases e : s = i <;> simp [e, h]
  · rw [if_neg h, wo_bit]
    by_cases e : s = i <;> simp [e] <;> omega
theorem t_apart {σ : Nat → Nat → Int} {n nv : Nat} (h : RT σ n nv) {a b : Nat} {t : Int} (ha : a < n) (hb : b < n) (hab : a ≠ b) (ht : t = 0 ∨ t = 1) : RT (zU (zU (sApart σ a b t) 39 (7 * a + b) t) 39 (7 * b + a) t) (n) (nv) := by
  obtain ⟨⟨⟨t1, t1', t2, t2', t3, t4, t5, t6, t7, t8, t9, t10, t11, t12, t13, t14, t15, t16, t17⟩, ⟨m1, m1', m2, m2', m3, m4, m5, m6, m7, m8, m9, m10, m11, m12, m13, m14, m15⟩, p3, p4, p5, p6, p7, p8, p9, p10⟩, q1, q2, q3⟩ := h
  have z1 := t9 a (by omega)
  have z2 := t9 b (by omega)
  have w1 := apF_lt (t := t) (S := (σ 8 a).toNat) (s := b) (by omega) (by omega)
  have w2 := apF_lt (t := t) (S := (σ 8 b).toNat) (s := a) (by omega) (by omega)
  unfold sApart
  refine ⟨⟨⟨(by simp only [zU, Nat.reduceEqDiff, false_and, true_and, and_false, and_true, if_false, if_true, ↓reduceIte, reduceCtorEq]; exact t1), by omega, (by simp only [zU, Nat.reduceEqDiff, false_and, true_and, and_false, and_true, if_false, if_true, ↓reduceIte, reduceCtorEq]; exact t2), by omega, (by repeat (first | assumption | refine bd_zU ?_ (by omega))), (by repeat (first | assumption | refine bd_zU ?_ (by omega))), (by repeat (first | assumption | refine bd_zU ?_ (by omega))), (by repeat (first | assumption | refine bd_zU ?_ (by omega))), (by repeat (first | assumption | refine bd_zU ?_ (by omega))), (by repeat (first | assumption | refine bd_zU ?_ (by omega))), (by repeat (first | assumption | refine bd_zU ?_ (by omega))), (by repeat (first | assumption | refine bd_zU ?_ (by omega))), (by repeat (first | assumption | refine bd_zU ?_ (by omega))), (by repeat (first | assumption | refine bd_zU ?_ (by omega))), (by repeat (first | assumption | refine bd_zU ?_ (by omega))), (by repeat (first | assumption | refine bd_zU ?_ (by omega))), (by repeat (first | assumption | refine bd_zU ?_ (by omega))), (by repeat (first | assumption | refine bd_zU ?_ (by omega))), (by repeat (first | assumption | refine bd_zU ?_ (by omega)))⟩, ⟨(by simp only [zU, Nat.reduceEqDiff, false_and, true_and, and_false, and_true, if_false, if_true, ↓reduceIte, reduceCtorEq]; exact m1), by omega, (by simp only [zU, Nat.reduceEqDiff, false_and, true_and, and_false, and_true, if_false, if_true, ↓reduceIte, reduceCtorEq]; exact m2), by omega, (by repeat (first | assumption | refine bd_zU ?_ (by omega))), (by repeat (first | assumption | refine bd_zU ?_ (by omega))), (by repeat (first | assumption | refine bd_zU ?_ (by omega))), (by repeat (first | assumption | refine bd_zU ?_ (by omega))), (by repeat (first | assumption | refine bd_zU ?_ (by omega))), (by repeat (first | assumption | refine bd_zU ?_ (by omega))), (by repeat (first | assumption | refine bd_zU ?_ (by omega))), (by repeat (first | assumption | refine bd_zU ?_ (by omega))), (by repeat (first | assumption | refine bd_zU ?_ (by omega))), (by repeat (first | assumption | refine bd_zU ?_ (by omega))), (by repeat (first | assumption | refine bd_zU ?_ (by omega))), (by repeat (first | assumption | refine bd_zU ?_ (by omega))), (by repeat (first | assumption | refine bd_zU ?_ (by omega)))⟩, ?_, ?_, ?_, ?_, ?_, ?_, ?_, ?_⟩, ?_, ?_, ?_⟩
  · simp only [zU, Nat.reduceEqDiff, false_and, true_and, and_false, and_true, if_false, if_true, ↓reduceIte, reduceCtorEq]
    exact p3
  · simp only [zU, Nat.reduceEqDiff, false_and, true_and, and_false, and_true, if_false, if_true, ↓reduceIte, reduceCtorEq]
    exact p4
  · simp only [zU, Nat.reduceEqDiff, false_and, true_and, and_false, and_true, if_false, if_true, ↓reduceIte, reduceCtorEq]
    exact p5
  · intro i j hi hj
    simp only [zU, Nat.reduceEqDiff, false_and, true_and, and_false, and_true, if_false, if_true, ↓reduceIte, reduceCtorEq]
    by_cases e1 : i = b
    · subst e1
      simp only [if_true, Int.toNat_natCast, apF_bit]
      by_cases e2 : a = j
      · subst e2
        simp only [if_true, decide_eq_true_eq]
      · have x1 : ¬ 7 * i + j = 7 * i + a := by omega
        have x2 : ¬ 7 * i + j = 7 * a + i := by omega
        simp only [if_neg e2, if_neg x1, if_neg x2]
        exact p6 i j hi hj
    · simp only [if_neg e1]
      by_cases e3 : i = a
      · subst e3
        simp only [if_true, Int.toNat_natCast, apF_bit]
        by_cases e2 : b = j
        · subst e2
          have x1 : ¬ 7 * i + b = 7 * b + i := by omega
          simp only [if_true, if_neg x1, decide_eq_true_eq]
        · have x1 : ¬ 7 * i + j = 7 * i + b := by omega
          have x2 : ¬ 7 * i + j = 7 * b + i := by omega
          simp only [if_neg e2, if_neg x1, if_neg x2]
          exact p6 i j hi hj
      · have x1 : ¬ 7 * i + j = 7 * a + b := by omega
        have x2 : ¬ 7 * i + j = 7 * b + a := by omega
        simp only [if_neg e3, if_neg x1, if_neg x2]
        exact p6 i j hi hj
  · simp only [zU, Nat.reduceEqDiff, false_and, true_and, and_false, and_true, if_false, if_true, ↓reduceIte, reduceCtorEq]
    exact p7
  · simp only [zU, Nat.reduceEqDiff, false_and, true_and, and_false, and_true, if_false, if_true, ↓reduceIte, reduceCtorEq]
    exact p8
  · intro i j hi hj
    simp only [zU, Nat.reduceEqDiff, false_and, true_and, and_false, and_true, if_false, if_true, ↓reduceIte, reduceCtorEq]
    by_cases e1 : i = a ∧ j = b
    · obtain ⟨rfl, rfl⟩ := e1
      have x1 : ¬ 7 * i + j = 7 * j + i := by omega
      simp only [if_true, if_neg x1]
    · by_cases e2 : i = b ∧ j = a
      · obtain ⟨rfl, rfl⟩ := e2
        have x1 : ¬ 7 * j + i = 7 * i + j := by omega
        simp only [if_true, if_neg x1]
      · have x1 : ¬ 7 * i + j = 7 * a + b := by omega
        have x2 : ¬ 7 * i + j = 7 * b + a := by omega
        have x3 : ¬ 7 * j + i = 7 * a + b := by omega
        have x4 : ¬ 7 * j + i = 7 * b + a := by omega
        simp only [if_neg x1, if_neg x2, if_neg x3, if_neg x4]
        exact p9 i j hi hj
  · intro i hi
    simp only [zU, Nat.reduceEqDiff, false_and, true_and, and_false, and_true, if_false, if_true, ↓reduceIte, reduceCtorEq]
    have x1 : ¬ 7 * i + i = 7 * a + b := by omega
    have x2 : ¬ 7 * i + i = 7 * b + a := by omega
    simp only [if_neg x1, if_neg x2]
    exact p10 i hi
  · simp only [zU, Nat.reduceEqDiff, false_and, true_and, and_false, and_true, if_false, if_true, ↓reduceIte, reduceCtorEq]
    exact q1
  · simp only [zU, Nat.reduceEqDiff, false_and, true_and, and_false, and_true, if_false, if_true, ↓reduceIte, reduceCtorEq]
    exact q2
  · exact q3.congr (by funext j; simp only [zU, Nat.reduceEqDiff, false_and, true_and, and_false, and_true, if_false, if_true, ↓reduceIte, reduceCtorEq]) (by funext j; simp only [zU, Nat.reduceEqDiff, false_and, true_and, and_false, and_true, if_false, if_true, ↓reduceIte, reduceCtorEq])
theorem or_128 {S S' : Nat} (h : S < 128) (h' : S' < 128) : S ||| S' < 128 := Nat.or_lt_two_pow (n := 7) h h'
theorem t_before {σ : Nat → Nat → Int} {n nv : Nat} (h : RT σ n nv) {a b : Nat} (ha : a < n) (hb : b < n) : RT (zU (sBefore σ n a b) 40 (7 * a + b) 1) n nv := by
  obtain ⟨⟨⟨t1, t1', t2, t2', t3, t4, t5, t6, t7, t8, t9, t10, t11, t12, t13, t14, t15, t16, t17⟩, ⟨m1, m1', m2, m2', m3, m4, m5, m6, m7, m8, m9, m10, m11, m12, m13, m14, m15⟩, p3, p4, p5, p6, p7, p8, p9, p10⟩, q1, q2, q3⟩ := h
  have ek : ∀ k, k ≠ 9 → k ≠ 10 → k ≠ 11 → k ≠ 40 → zU (sBefore σ n a b) 40 (7 * a + b) 1 k = σ k := fun k a1 a2 a3 a4 => by
    rw [zU_ne a4]; unfold sBefore; rw [rcF_ne a3]; unfold sBef0; rw [zU_ne a1, zU_ne a2]
  have e9 : zU (sBefore σ n a b) 40 (7 * a + b) 1 9 = zU σ 9 b (wi (σ 9 b).toNat a : Nat) 9 := by
    rw [zU_ne (by decide)]; unfold sBefore; rw [rcF_ne (by decide)]; unfold sBef0; funext j; simp only [zU, Nat.reduceEqDiff, false_and, true_and, and_false, and_true, if_false, if_true, ↓reduceIte, reduceCtorEq]
  have e10 : zU (sBefore σ n a b) 40 (7 * a + b) 1 10 = zU σ 10 a (wi (σ 10 a).toNat b : Nat) 10 := by
    rw [zU_ne (by decide)]; unfold sBefore; rw [rcF_ne (by decide)]; unfold sBef0; rw [zU_ne (by decide)]
  have e40 : zU (sBefore σ n a b) 40 (7 * a + b) 1 40 = zU σ 40 (7 * a + b) 1 40 := by
    funext j
    have : sBefore σ n a b 40 = σ 40 := by unfold sBefore; rw [rcF_ne (by decide)]; unfold sBef0; rw [zU_ne (by decide), zU_ne (by decide)]
    simp only [zU, this]
  have e11 : zU (sBefore σ n a b) 40 (7 * a + b) 1 11 = sBefore σ n a b 11 := zU_ne (by decide)
  have b11 : bd (sBefore σ n a b) 11 7 0 127 := by
    intro i hi
    have y0 := t12 i hi
    have y1 := t12 b (by omega)
    have y2 := or_128 (S := (σ 11 i).toNat) (S' := wi (σ 11 b).toNat b) (by omega) (wi_128 (by omega) (by omega))
    unfold sBefore
    rw [rcF_11]
    have e0 : sBef0 σ a b 11 = σ 11 := by unfold sBef0; rw [zU_ne (by decide), zU_ne (by decide)]
    rw [e0]
    split <;> omega
  have q3' := RI.add (τ := zU (sBefore σ n a b) 40 (7 * a + b) 1) (a := a) (b := b) t1' q3 ha hb (fun x y hx hy => by
    unfold Eg
    rw [e40]
    by_cases e : 7 * x + y = 7 * a + b
    · rw [e, zU_self]
      exact ⟨fun _ => Or.inr ⟨by omega, by omega⟩, fun _ => by decide⟩
    · rw [zU_nj e]
      constructor
      · exact fun z => Or.inl z
      · rintro (z | ⟨rfl, rfl⟩)
        · exact z
        · exact absurd rfl e) (fun x y hx hy => by
    have := sBef_11 (b := b) q3 ha t1' hx hy
    unfold Rc at this ⊢
    rw [e11]
    exact this)
  have v1 := t10 b (by omega)
  have v2 := t11 a (by omega)
  have w1 := wi_128 (S := (σ 9 b).toNat) (s := a) (by omega) (by omega)
  have w2 := wi_128 (S := (σ 10 a).toNat) (s := b) (by omega) (by omega)
  have c9 : bd (zU σ 9 b (wi (σ 9 b).toNat a : Nat)) 9 7 0 127 := bd_zU t10 (by omega)
  have c10 : bd (zU σ 10 a (wi (σ 10 a).toNat b : Nat)) 10 7 0 127 := bd_zU t11 (by omega)
  have c40 : bd (zU σ 40 (7 * a + b) 1) 40 49 0 1 := bd_zU m10 (by omega)
  refine ⟨?_, ?_, ?_, q3'⟩
  · unfold TT tI mI bd at *
    rw [e9, e10, e11, e40, ek 1 (by decide) (by decide) (by decide) (by decide), ek 2 (by decide) (by decide) (by decide) (by decide), ek 3 (by decide) (by decide) (by decide) (by decide), ek 4 (by decide) (by decide) (by decide) (by decide), ek 5 (by decide) (by decide) (by decide) (by decide), ek 6 (by decide) (by decide) (by decide) (by decide), ek 7 (by decide) (by decide) (by decide) (by decide), ek 8 (by decide) (by decide) (by decide) (by decide), ek 12 (by decide) (by decide) (by decide) (by decide), ek 13 (by decide) (by decide) (by decide) (by decide), ek 14 (by decide) (by decide) (by decide) (by decide), ek 15 (by decide) (by decide) (by decide) (by decide), ek 16 (by decide) (by decide) (by decide) (by decide), ek 32 (by decide) (by decide) (by decide) (by decide), ek 33 (by decide) (by decide) (by decide) (by decide), ek 34 (by decide) (by decide) (by decide) (by decide), ek 35 (by decide) (by decide) (by decide) (by decide), ek 36 (by decide) (by decide) (by decide) (by decide), ek 37 (by decide) (by decide) (by decide) (by decide), ek 38 (by decide) (by decide) (by decide) (by decide), ek 39 (by decide) (by decide) (by decide) (by decide), ek 41 (by decide) (by decide) (by decide) (by decide), ek 42 (by decide) (by decide) (by decide) (by decide), ek 43 (by decide) (by decide) (by decide) (by decide), ek 44 (by decide) (by decide) (by decide) (by decide), ek 45 (by decide) (by decide) (by decide) (by decide)]
    refine ⟨⟨t1, t1', t2, t2', t3, t4, t5, t6, t7, t8, t9, c9, c10, b11, t13, t14, t15, t16, t17⟩, ⟨m1, m1', m2, m2', m3, m4, m5, m6, m7, m8, m9, c40, m11, m12, m13, m14, m15⟩, p3, p4, p5, p6, fun i j hi hj => ?_, fun i j hi hj => ?_, p9, p10⟩
    · by_cases e : i = a
      · subst e
        rw [zU_self, Int.toNat_natCast, wi_bit]
        by_cases e2 : b = j
        · subst e2; rw [zU_self]; simp
        · rw [zU_nj (by omega)]
          simp only [e2, decide_false, Bool.or_false]
          exact p7 i j hi hj
      · rw [zU_nj e, zU_nj (by omega)]
        exact p7 i j hi hj
    · by_cases e : j = b
      · subst e
        rw [zU_self, Int.toNat_natCast, wi_bit]
        by_cases e2 : a = i
        · subst e2; rw [zU_self]; simp
        · rw [zU_nj (by omega)]
          simp only [e2, decide_false, Bool.or_false]
          exact p8 i j hi hj
      · rw [zU_nj e, zU_nj (by omega)]
        exact p8 i j hi hj
  · rw [ek 34 (by decide) (by decide) (by decide) (by decide), ek 3 (by decide) (by decide) (by decide) (by decide), ek 36 (by decide) (by decide) (by decide) (by decide), ek 5 (by decide) (by decide) (by decide) (by decide), ek 37 (by decide) (by decide) (by decide) (by decide), ek 6 (by decide) (by decide) (by decide) (by decide)]
    exact q1
  · rw [ek 4 (by decide) (by decide) (by decide) (by decide), ek 7 (by decide) (by decide) (by decide) (by decide)]
    exact q2
