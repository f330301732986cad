/-! THE CHEAPEST PLAN: parts of a set, one vehicle after the other -/
theorem sub_next0 : ((List.range 128).all fun S => (List.range 128).all fun Q => !((Q &&& S == Q) && Nat.blt 0 Q) || (List.range Q).all fun P => !(P &&& S == P) || Nat.ble P ((Q - 1) &&& S)) = true := by decide +kernel
theorem sub_next (S : Nat) (hS : S < 128) (Q : Nat) (hQ : Q < 128) (h1 : Q &&& S = Q) (h2 : 0 < Q) (P : Nat) (hP : P < Q) (h3 : P &&& S = P) : P ≤ (Q - 1) &&& S := by
  have h := List.all_eq_true.mp (List.all_eq_true.mp sub_next0 S (List.mem_range.mpr hS)) Q (List.mem_range.mpr hQ)
  have hb : ((Q &&& S == Q) && Nat.blt 0 Q) = true := by
    rw [h1, Bool.and_eq_true]
    exact ⟨by simp, by simp [Nat.blt_eq, h2]⟩
  rw [hb, Bool.not_true, Bool.false_or] at h
  have h4 := List.all_eq_true.mp h P (List.mem_range.mpr hP)
  have h5 : (P &&& S == P) = true := by rw [h3]; simp
  rw [h5, Bool.not_true, Bool.false_or] at h4
  exact Nat.le_of_ble_eq_true h4
/-- the class's loop over the parts of S, from Q down -/
def lwF (S : Nat) (pr g : Nat → Int) : Nat → Nat → Int → Int
  | 0, _, x => x
  | k + 1, Q, x => if Q = 0 then x else lwF S pr g k ((Q - 1) &&& S) (min x (pr Q + g (S - Q)))
theorem lwF_x {S : Nat} {pr g : Nat → Int} : ∀ (k Q : Nat) (x : Int), lwF S pr g k Q x ≤ x := by
  intro k
  induction k with
  | zero => intro Q x; exact Int.le_refl x
  | succ k ih =>
    intro Q x
    unfold lwF
    split
    · exact Int.le_refl x
    · have := ih ((Q - 1) &&& S) (min x (pr Q + g (S - Q)))
      omega
theorem lwF_le {S : Nat} (hS : S < 128) {pr g : Nat → Int} : ∀ (k Q : Nat) (x : Int), Q ≤ k → Q < 128 → Q &&& S = Q → ∀ P, 0 < P → P ≤ Q → P &&& S = P → lwF S pr g k Q x ≤ pr P + g (S - P) := by
  intro k
  induction k with
  | zero => intro Q x hk _ _ P h1 h2; omega
  | succ k ih =>
    intro Q x hk hQ hQS P h1 h2 h3
    unfold lwF
    rw [if_neg (by omega)]
    by_cases h : P = Q
    · subst h
      have := lwF_x (S := S) (pr := pr) (g := g) k ((P - 1) &&& S) (min x (pr P + g (S - P)))
      omega
    · have hle := sub_next S hS Q hQ hQS (by omega) P (by omega) h3
      have hlt : (Q - 1) &&& S ≤ Q - 1 := Nat.and_le_left
      exact ih ((Q - 1) &&& S) _ (by omega) (by omega) (by rw [Nat.and_assoc, Nat.and_self]) P h1 hle h3
theorem lwF_ex {S : Nat} {pr g : Nat → Int} : ∀ (k Q : Nat) (x : Int), Q &&& S = Q → lwF S pr g k Q x = x ∨ ∃ P, 0 < P ∧ P &&& S = P ∧ lwF S pr g k Q x = pr P + g (S - P) := by
  intro k
  induction k with
  | zero => intro Q x _; exact Or.inl rfl
  | succ k ih =>
    intro Q x hQ
    unfold lwF
    by_cases h : Q = 0
    · rw [if_pos h]; exact Or.inl rfl
    · rw [if_neg h]
      rcases ih ((Q - 1) &&& S) (min x (pr Q + g (S - Q))) (by rw [Nat.and_assoc, Nat.and_self]) with e | ⟨P, p1, p2, p3⟩
      · by_cases h1 : x ≤ pr Q + g (S - Q)
        · rw [Int.min_eq_left h1] at e ⊢
          exact Or.inl e
        · rw [Int.min_eq_right (by omega)] at e ⊢
          exact Or.inr ⟨Q, by omega, hQ, e⟩
      · exact Or.inr ⟨P, p1, p2, p3⟩
/-- the least price of a set by these vehicles, the last one first -/
def lsV (pr : Nat → Nat → Int) (sk : Nat → Int) : List Nat → Nat → Int
  | [], S => sk S
  | v :: vs, S => lwF S (pr v) (lsV pr sk vs) S S (lsV pr sk vs S)
/-- the stops below n of which P holds, as a set -/
def bts (P : Nat → Bool) : Nat → Nat
  | 0 => 0
  | k + 1 => if P k = true then wi (bts P k) k else bts P k
theorem bts_bit (P : Nat → Bool) : ∀ n i, (bts P n).testBit i = (decide (i < n) && P i) := by
  intro n
  induction n with
  | zero => intro i; simp [bts]
  | succ k ih =>
    intro i
    unfold bts
    split
    · rename_i h
      rw [wi_bit, ih]
      by_cases h1 : k = i
      · subst h1; simp [h]
      · have : (i < k + 1) = (i < k) := by apply propext; omega
        simp [h1, this]
    · rename_i h
      rw [ih]
      by_cases h1 : k = i
      · subst h1
        have : P k = false := by cases hp : P k <;> simp_all
        simp [this]
      · have : (i < k + 1) = (i < k) := by apply propext; omega
        simp [this]
/-- a plan: f gives each stop a vehicle (or another number: skipped); what it costs over S by these vehicles -/
def prt (n : Nat) (f : Nat → Nat) (v S : Nat) : Nat := bts (fun i => S.testBit i && decide (f i = v)) n
def cst (pr : Nat → Nat → Int) (sk : Nat → Int) (n : Nat) : List Nat → (Nat → Nat) → Nat → Int
  | [], _, S => sk S
  | v :: vs, f, S => (if prt n f v S = 0 then 0 else pr v (prt n f v S)) + cst pr sk n vs f (S - prt n f v S)
theorem prt_bit (n : Nat) (f : Nat → Nat) (v S i : Nat) : (prt n f v S).testBit i = (decide (i < n) && (S.testBit i && decide (f i = v))) := bts_bit _ n i
theorem prt_sub (n : Nat) (f : Nat → Nat) (v S : Nat) : prt n f v S &&& S = prt n f v S := by
  apply Nat.eq_of_testBit_eq
  intro i
  rw [Nat.testBit_and, prt_bit]
  cases S.testBit i <;> simp
theorem prt_congr {n : Nat} {f g : Nat → Nat} {v S : Nat} (h : ∀ i, i < n → S.testBit i = true → (f i = v ↔ g i = v)) : prt n f v S = prt n g v S := by
  apply Nat.eq_of_testBit_eq
  intro i
  rw [prt_bit, prt_bit]
  by_cases h1 : i < n
  · cases h2 : S.testBit i with
    | false => simp
    | true => simp [h1, h i h1 h2]
  · simp [h1]
theorem cst_congr {pr : Nat → Nat → Int} {sk : Nat → Int} {n : Nat} : ∀ (vs : List Nat) {f g : Nat → Nat} (S : Nat), (∀ i, i < n → S.testBit i = true → f i = g i) → cst pr sk n vs f S = cst pr sk n vs g S
  | [], _, _, _, _ => rfl
  | v :: vs, f, g, S, h => by
    have e : prt n f v S = prt n g v S := prt_congr (fun i h1 h2 => by rw [h i h1 h2])
    unfold cst
    rw [e, cst_congr vs (S - prt n g v S) (fun i h1 h2 => h i h1 (by
      rw [sub_bit (prt_sub n g v S)] at h2
      simp at h2
      exact h2.1))]
theorem lsV_le {pr : Nat → Nat → Int} {sk : Nat → Int} {n : Nat} : ∀ (vs : List Nat) (f : Nat → Nat) (S : Nat), S < 128 → lsV pr sk vs S ≤ cst pr sk n vs f S
  | [], _, _, _ => Int.le_refl _
  | v :: vs, f, S, hS => by
    unfold lsV cst
    have hsub := prt_sub n f v S
    have hP : prt n f v S ≤ S := by rw [← hsub]; exact Nat.and_le_right
    have ih := lsV_le (pr := pr) (sk := sk) (n := n) vs f (S - prt n f v S) (by omega)
    by_cases h : prt n f v S = 0
    · rw [if_pos h]
      rw [h] at ih ⊢
      have := lwF_x (S := S) (pr := pr v) (g := lsV pr sk vs) S S (lsV pr sk vs S)
      simp only [Nat.sub_zero] at ih ⊢
      omega
    · rw [if_neg h]
      have := lwF_le hS (pr := pr v) (g := lsV pr sk vs) S S (lsV pr sk vs S) (Nat.le_refl _) hS (Nat.and_self S) (prt n f v S) (by omega) hP hsub
      omega
theorem lsV_ex {pr : Nat → Nat → Int} {sk : Nat → Int} {n : Nat} (z : Nat) : ∀ (vs : List Nat), vs.Nodup → z ∉ vs → ∀ S, S < 2 ^ n → ∃ f : Nat → Nat, (∀ i, f i ∈ vs ∨ f i = z) ∧ lsV pr sk vs S = cst pr sk n vs f S
  | [], _, _, S, _ => ⟨fun _ => z, fun _ => Or.inr rfl, rfl⟩
  | v :: vs, hnd, hz, S, hS => by
    have hv : v ∉ vs := (List.nodup_cons.mp hnd).1
    have hzv : z ≠ v := fun h => hz (by rw [h]; exact List.mem_cons_self)
    have hz' : z ∉ vs := fun h => hz (List.mem_cons_of_mem _ h)
    unfold lsV
    rcases lwF_ex (S := S) (pr := pr v) (g := lsV pr sk vs) S S (lsV pr sk vs S) (Nat.and_self S) with e | ⟨P, p1, p2, e⟩
    · obtain ⟨f, f1, f2⟩ := lsV_ex (pr := pr) (sk := sk) (n := n) z vs (List.nodup_cons.mp hnd).2 hz' S hS
      refine ⟨f, fun i => ?_, ?_⟩
      · rcases f1 i with h | h
        · exact Or.inl (List.mem_cons_of_mem _ h)
        · exact Or.inr h
      · have h0 : prt n f v S = 0 := by
          apply Nat.eq_of_testBit_eq
          intro i
          rw [prt_bit, Nat.zero_testBit]
          have : f i ≠ v := by
            intro h
            rcases f1 i with h1 | h1
            · exact hv (by rw [← h]; exact h1)
            · exact hzv (by rw [← h1]; exact h)
          simp [this]
        unfold cst
        rw [h0, if_pos rfl, e, f2, Nat.sub_zero]
        omega
    · have hPS : P ≤ S := by rw [← p2]; exact Nat.and_le_right
      obtain ⟨f, f1, f2⟩ := lsV_ex (pr := pr) (sk := sk) (n := n) z vs (List.nodup_cons.mp hnd).2 hz' (S - P) (by omega)
      refine ⟨fun i => if P.testBit i = true then v else f i, fun i => ?_, ?_⟩
      · dsimp only
        split
        · exact Or.inl List.mem_cons_self
        · rcases f1 i with h | h
          · exact Or.inl (List.mem_cons_of_mem _ h)
          · exact Or.inr h
      · have h0 : prt n (fun i => if P.testBit i = true then v else f i) v S = P := by
          apply Nat.eq_of_testBit_eq
          intro i
          rw [prt_bit]
          cases hp : P.testBit i with
          | true =>
            have h1 : S.testBit i = true := by
              rw [← p2, Nat.testBit_and] at hp
              simp at hp
              exact hp.2
            have h2 : i < n := by
              rcases Nat.lt_or_ge i n with h | h
              · exact h
              · have := Nat.testBit_lt_two_pow (Nat.lt_of_lt_of_le hS (Nat.pow_le_pow_right (by omega) h))
                rw [this] at h1; cases h1
            simp [h1, h2]
          | false =>
            have : f i ≠ v := by
              intro h
              rcases f1 i with h1 | h1
              · exact hv (by rw [← h]; exact h1)
              · exact hzv (by rw [← h1]; exact h)
            simp [this]
        unfold cst
        rw [h0, if_neg (by omega), e, f2]
        congr 1
        refine cst_congr vs (S - P) (fun i _ h2 => ?_)
        rw [sub_bit p2] at h2
        simp at h2
        simp [h2.2]
