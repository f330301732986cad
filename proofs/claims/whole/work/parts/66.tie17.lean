/-! WHO IS BEHIND WHOM: the class's 'reached', the reference's 'leads' -/
theorem wi_id {S s : Nat} (h : S.testBit s = true) : wi S s = S := by
  apply Nat.eq_of_testBit_eq
  intro i
  rw [wi_bit]
  by_cases e : s = i
  · subst e; simp [h]
  · simp [e]
theorem gY {σ : Nat → Nat → Int} {n x S : Nat} : ∀ y, y ≤ n → ldY σ x S y = S ∨ cnt (fun i => S.testBit i) n < cnt (fun i => (ldY σ x S y).testBit i) n
  | 0, _ => Or.inl rfl
  | y + 1, hy => by
    have ih := gY (σ := σ) (n := n) (x := x) (S := S) y (by omega)
    unfold ldY
    split
    · by_cases hb : (ldY σ x S y).testBit y = true
      · rw [wi_id hb]; exact ih
      · right
        rw [cnt_wi (by simpa using hb) (by omega)]
        rcases ih with e | e
        · rw [e]; omega
        · omega
    · exact ih
theorem gX {σ : Nat → Nat → Int} {n S : Nat} : ∀ x, ldX σ n S x = S ∨ cnt (fun i => S.testBit i) n < cnt (fun i => (ldX σ n S x).testBit i) n
  | 0 => Or.inl rfl
  | x + 1 => by
    have ih := gX (σ := σ) (n := n) (S := S) x
    unfold ldX
    split
    · have h := gY (σ := σ) (x := x) (S := ldX σ n S x) n (Nat.le_refl n)
      rcases h with e | e
      · rw [e]; exact ih
      · right
        rcases ih with e2 | e2
        · rw [e2] at e ⊢; exact e
        · omega
    · exact ih
theorem cnt_pos {P : Nat → Bool} {s : Nat} (h : P s = true) : ∀ n, s < n → 1 ≤ cnt P n
  | 0, hs => by omega
  | n + 1, hs => by
    rw [cnt_s]
    by_cases e : s = n
    · subst e; rw [if_pos h]; omega
    · have := cnt_pos h n (by omega)
      omega
theorem ldX_mono {σ : Nat → Nat → Int} {n S i : Nat} (h : S.testBit i = true) : ∀ x, (ldX σ n S x).testBit i = true
  | 0 => h
  | x + 1 => by
    unfold ldX
    split
    · exact ldY_mono (ldX_mono h x) n
    · exact ldX_mono h x
theorem ldT_mono {σ : Nat → Nat → Int} {n S i : Nat} (h : S.testBit i = true) : ∀ t, (ldT σ n S t).testBit i = true
  | 0 => h
  | t + 1 => ldX_mono (ldT_mono h t) n
theorem gT {σ : Nat → Nat → Int} {n b : Nat} (hb : b < n) : ∀ t, ldX σ n (ldT σ n (2 ^ b) t) n = ldT σ n (2 ^ b) t ∨ t + 1 ≤ cnt (fun i => (ldT σ n (2 ^ b) t).testBit i) n
  | 0 => Or.inr (cnt_pos (s := b) (by show (2 ^ b).testBit b = true; simp) n hb)
  | t + 1 => by
    have ih := gT (σ := σ) hb t
    rcases ih with e | e
    · left
      have e2 : ldT σ n (2 ^ b) (t + 1) = ldT σ n (2 ^ b) t := e
      rw [e2]; exact e
    · rcases gX (σ := σ) (n := n) (S := ldT σ n (2 ^ b) t) n with e2 | e2
      · left
        have e3 : ldT σ n (2 ^ b) (t + 1) = ldT σ n (2 ^ b) t := e2
        rw [e3]; exact e2
      · right
        have e3 : ldT σ n (2 ^ b) (t + 1) = ldX σ n (ldT σ n (2 ^ b) t) n := rfl
        rw [e3]; omega
theorem ldY_le {σ : Nat → Nat → Int} {x S : Nat} : ∀ k y, ldY σ x S y ≤ ldY σ x S (y + k)
  | 0, y => Nat.le_refl _
  | k + 1, y => by
    refine Nat.le_trans (ldY_le k y) ?_
    show _ ≤ ldY σ x S (y + k + 1)
    rw [ldY]
    split
    · exact Nat.left_le_or
    · exact Nat.le_refl _
theorem ldX_le {σ : Nat → Nat → Int} {n S : Nat} : ∀ k x, ldX σ n S x ≤ ldX σ n S (x + k)
  | 0, x => Nat.le_refl _
  | k + 1, x => by
    refine Nat.le_trans (ldX_le k x) ?_
    show _ ≤ ldX σ n S (x + k + 1)
    rw [ldX]
    split
    · have := ldY_le (σ := σ) (x := x + k) (S := ldX σ n S (x + k)) n 0
      rw [Nat.zero_add] at this
      exact this
    · exact Nat.le_refl _
theorem ld_closed {σ : Nat → Nat → Int} {n S : Nat} (h : ldX σ n S n = S) {x y : Nat} (hx : x < n) (hy : y < n) (hb : S.testBit x = true) (he : σ 40 (7 * x + y) ≠ 0) : S.testBit y = true := by
  have e0 : ∀ x, x ≤ n → ldX σ n S x = S := by
    intro x hx
    have h1 := ldX_le (σ := σ) (n := n) (S := S) x 0
    rw [Nat.zero_add] at h1
    have h2 := ldX_le (σ := σ) (n := n) (S := S) (n - x) x
    rw [show x + (n - x) = n by omega, h] at h2
    exact Nat.le_antisymm h2 h1
  have e1 := e0 (x + 1) (by omega)
  rw [ldX, e0 x (by omega), if_pos hb] at e1
  have h1 := ldY_le (σ := σ) (x := x) (S := S) y 0
  rw [Nat.zero_add] at h1
  have h2 := ldY_le (σ := σ) (x := x) (S := S) (n - y) y
  rw [show y + (n - y) = n by omega, e1] at h2
  have e2 : ldY σ x S y = S := Nat.le_antisymm h2 h1
  have h3 := ldY_le (σ := σ) (x := x) (S := S) (y + 1) 0
  rw [Nat.zero_add] at h3
  have h4 := ldY_le (σ := σ) (x := x) (S := S) (n - (y + 1)) (y + 1)
  rw [show y + 1 + (n - (y + 1)) = n by omega, e1] at h4
  have e3 : ldY σ x S (y + 1) = S := Nat.le_antisymm h4 h3
  rw [ldY, if_pos he, e2] at e3
  rw [← e3, wi_bit]
  simp
theorem ldY_P {σ : Nat → Nat → Int} {x S : Nat} {P : Nat → Prop} (hS : ∀ i, S.testBit i = true → P i) (hP : ∀ y, σ 40 (7 * x + y) ≠ 0 → y < 7 → P y) : ∀ y, y ≤ 7 → ∀ i, (ldY σ x S y).testBit i = true → P i
  | 0, _, i, h => hS i h
  | y + 1, hy, i, h => by
    have ih := ldY_P hS hP y (by omega)
    rw [ldY] at h
    split at h
    · rename_i he
      rw [wi_bit] at h
      simp only [Bool.or_eq_true, decide_eq_true_eq] at h
      rcases h with h | h
      · exact ih i h
      · rw [← h]; exact hP y he (by omega)
    · exact ih i h
theorem ldX_P {σ : Nat → Nat → Int} {n S : Nat} {P : Nat → Prop} (hn : n ≤ 7) (hS : ∀ i, S.testBit i = true → P i) (hP : ∀ x y, x < 7 → y < 7 → P x → σ 40 (7 * x + y) ≠ 0 → P y) : ∀ x, x ≤ n → ∀ i, (ldX σ n S x).testBit i = true → P i
  | 0, _, i, h => hS i h
  | x + 1, hx, i, h => by
    have ih := ldX_P hn hS hP x (by omega)
    rw [ldX] at h
    split at h
    · rename_i hb
      exact ldY_P ih (fun y he hy => hP x y (by omega) hy (ih x hb) he) n hn i h
    · exact ih i h
theorem ldT_P {σ : Nat → Nat → Int} {n S : Nat} {P : Nat → Prop} (hn : n ≤ 7) (hS : ∀ i, S.testBit i = true → P i) (hP : ∀ x y, x < 7 → y < 7 → P x → σ 40 (7 * x + y) ≠ 0 → P y) : ∀ t i, (ldT σ n S t).testBit i = true → P i
  | 0, i, h => hS i h
  | t + 1, i, h => ldX_P hn (fun i h => ldT_P hn hS hP t i h) hP n (Nat.le_refl n) i h
def Eg (σ : Nat → Nat → Int) (x y : Nat) : Prop := σ 40 (7 * x + y) ≠ 0
def Rc (σ : Nat → Nat → Int) (x y : Nat) : Prop := (σ 11 x).toNat.testBit y = true
def RI (σ : Nat → Nat → Int) (n : Nat) : Prop :=
  (∀ x y, x < 7 → y < 7 → Eg σ x y → x < n ∧ y < n) ∧ (∀ x y, x < 7 → y < 7 → Eg σ x y → Rc σ x y) ∧ (∀ x y z, x < 7 → y < 7 → z < 7 → Rc σ x y → Eg σ y z → Rc σ x z) ∧ ∀ x z, x < 7 → z < 7 → Rc σ x z → ∀ P : Nat → Prop, (∀ y, y < 7 → Eg σ x y → P y) → (∀ y z, y < 7 → z < 7 → P y → Eg σ y z → P z) → P z
theorem RI.mono {σ : Nat → Nat → Int} {n m : Nat} (h : RI σ n) (hm : n ≤ m) : RI σ m := ⟨fun x y hx hy he => by have := h.1 x y hx hy he; omega, h.2⟩
theorem RI.congr {σ τ : Nat → Nat → Int} {n : Nat} (h : RI σ n) (e1 : τ 40 = σ 40) (e2 : τ 11 = σ 11) : RI τ n := by
  unfold RI Eg Rc at h ⊢; rw [e1, e2]; exact h
theorem RI.lt {σ : Nat → Nat → Int} {n x z : Nat} (h : RI σ n) (hx : x < 7) (hz : z < 7) (hr : Rc σ x z) : x < n ∧ z < n :=
  ⟨Decidable.byContradiction (fun hc => (h.2.2.2 x z hx hz hr (fun _ => False) (fun y hy he => hc (h.1 x y hx hy he).1) (fun _ _ _ _ f _ => f)).elim), h.2.2.2 x z hx hz hr (fun z => z < n) (fun y hy he => (h.1 x y hx hy he).2) (fun y z hy hz _ he => (h.1 y z hy hz he).2)⟩
theorem ld_iff {σ : Nat → Nat → Int} {n a b : Nat} (hn : n ≤ 7) (h : RI σ n) (ha : a < n) (hb : b < n) : (ldT σ n (2 ^ b) n).testBit a = true ↔ a = b ∨ Rc σ b a := by
  have hfix : ldX σ n (ldT σ n (2 ^ b) n) n = ldT σ n (2 ^ b) n := by
    rcases gT (σ := σ) hb n with e | e
    · exact e
    · have := cnt_le (fun i => (ldT σ n (2 ^ b) n).testBit i) n
      omega
  have hself : (ldT σ n (2 ^ b) n).testBit b = true := ldT_mono (by simp) n
  constructor
  · intro ht
    refine ldT_P (P := fun z => z = b ∨ Rc σ b z) hn (fun i hi => ?_) (fun x y hx hy hp he => ?_) n a ht
    · left
      rw [Nat.testBit_two_pow] at hi
      exact (of_decide_eq_true hi).symm
    · right
      rcases hp with e | e
      · subst e; exact h.2.1 x y hx hy he
      · exact h.2.2.1 b x y (by omega) hx hy e he
  · rintro (e | e)
    · subst e; exact hself
    · refine h.2.2.2 b a (by omega) (by omega) e (fun z => (ldT σ n (2 ^ b) n).testBit z = true) (fun y hy he => ?_) (fun y z hy hz hp he => ?_)
      · exact ld_closed hfix hb (h.1 b y (by omega) hy he).2 hself he
      · obtain ⟨l1, l2⟩ := h.1 y z hy hz he
        exact ld_closed hfix l1 l2 hp he
theorem RI.add {σ τ : Nat → Nat → Int} {n a b : Nat} (hn : n ≤ 7) (h : RI σ n) (ha : a < n) (hb : b < n) (h40 : ∀ x y, x < 7 → y < 7 → (Eg τ x y ↔ Eg σ x y ∨ (x = a ∧ y = b))) (h11 : ∀ x y, x < 7 → y < 7 → (Rc τ x y ↔ Rc σ x y ∨ ((x = a ∨ Rc σ x a) ∧ (y = b ∨ Rc σ b y)))) : RI τ n := by
  obtain ⟨h1, h2, h3, h4⟩ := h
  refine ⟨fun x y hx hy he => ?_, fun x y hx hy he => ?_, fun x y z hx hy hz hr he => ?_, fun x z hx hz hr P p1 p2 => ?_⟩
  · rcases (h40 x y hx hy).mp he with e | ⟨e1, e2⟩
    · exact h1 x y hx hy e
    · omega
  · rw [h11 x y hx hy]
    rcases (h40 x y hx hy).mp he with e | ⟨e1, e2⟩
    · exact Or.inl (h2 x y hx hy e)
    · exact Or.inr ⟨Or.inl e1, Or.inl e2⟩
  · rw [h11 x z hx hz]
    rcases (h11 x y hx hy).mp hr with r | ⟨r1, r2⟩ <;> rcases (h40 y z hy hz).mp he with e | ⟨e1, e2⟩
    · exact Or.inl (h3 x y z hx hy hz r e)
    · subst e1; exact Or.inr ⟨Or.inr r, Or.inl e2⟩
    · refine Or.inr ⟨r1, Or.inr ?_⟩
      rcases r2 with r2 | r2
      · subst r2; exact h2 y z hy hz e
      · exact h3 b y z (by omega) hy hz r2 e
    · exact Or.inr ⟨r1, Or.inl e2⟩
  · have q1 : ∀ y, y < 7 → Eg σ x y → P y := fun y hy he => p1 y hy ((h40 x y hx hy).mpr (Or.inl he))
    have q2 : ∀ y z, y < 7 → z < 7 → P y → Eg σ y z → P z := fun y z hy hz hp he => p2 y z hy hz hp ((h40 y z hy hz).mpr (Or.inl he))
    rcases (h11 x z hx hz).mp hr with r | ⟨r1, r2⟩
    · exact h4 x z hx hz r P q1 q2
    · have hPb : P b := by
        rcases r1 with e | e
        · exact p1 b (by omega) ((h40 x b hx (by omega)).mpr (Or.inr ⟨e, rfl⟩))
        · exact p2 a b (by omega) (by omega) (h4 x a hx (by omega) e P q1 q2) ((h40 a b (by omega) (by omega)).mpr (Or.inr ⟨rfl, rfl⟩))
      rcases r2 with e | e
      · rw [e]; exact hPb
      · exact h4 b z (by omega) hz e P (fun y hy he => q2 b y (by omega) hy hPb he) q2
theorem rcF_11 {σ : Nat → Nat → Int} {a more x : Nat} : ∀ i, rcF σ a more i 11 x = if x < i ∧ (x = a ∨ (σ 11 x).toNat.testBit a = true) then (((σ 11 x).toNat ||| more : Nat) : Int) else σ 11 x
  | 0 => by rw [if_neg (by omega)]; rfl
  | i + 1 => by
    have ih := rcF_11 (σ := σ) (a := a) (more := more) (x := x) i
    by_cases e : x = i
    · subst e
      rw [if_neg (by omega)] at ih
      unfold rcF
      by_cases hc : x = a ∨ (σ 11 x).toNat.testBit a = true
      · rw [if_pos hc, zU_self, if_pos ⟨by omega, hc⟩]
      · rw [if_neg hc, ih, if_neg (fun z => hc z.2)]
    · have hE : rcF σ a more (i + 1) 11 x = rcF σ a more i 11 x := by
        rw [rcF]
        split
        · rw [zU_nj e]
        · rfl
      rw [hE, ih]
      by_cases hc : x < i ∧ (x = a ∨ (σ 11 x).toNat.testBit a = true)
      · rw [if_pos hc, if_pos ⟨by omega, hc.2⟩]
      · rw [if_neg hc, if_neg (fun z => hc ⟨by omega, z.2⟩)]
theorem sBef_11 {σ : Nat → Nat → Int} {n a b : Nat} (h : RI σ n) (ha : a < n) (hn : n ≤ 7) {x y : Nat} (hx : x < 7) (hy : y < 7) : Rc (sBefore σ n a b) x y ↔ Rc σ x y ∨ ((x = a ∨ Rc σ x a) ∧ (y = b ∨ Rc σ b y)) := by
  have e : sBefore σ n a b 11 x = if x < n ∧ (x = a ∨ (σ 11 x).toNat.testBit a = true) then (((σ 11 x).toNat ||| wi (σ 11 b).toNat b : Nat) : Int) else σ 11 x := by
    unfold sBefore
    rw [rcF_11]
    have e0 : sBef0 σ a b 11 = σ 11 := by unfold sBef0; rw [zU_ne (by decide), zU_ne (by decide)]
    rw [e0]
  unfold Rc
  rw [e]
  by_cases hc : x < n ∧ (x = a ∨ (σ 11 x).toNat.testBit a = true)
  · rw [if_pos hc, Int.toNat_natCast, Nat.testBit_or, wi_bit]
    simp only [Bool.or_eq_true, decide_eq_true_eq]
    constructor
    · rintro (r | r | r)
      · exact Or.inl r
      · exact Or.inr ⟨hc.2, Or.inr r⟩
      · exact Or.inr ⟨hc.2, Or.inl r.symm⟩
    · rintro (r | ⟨-, r | r⟩)
      · exact Or.inl r
      · exact Or.inr (Or.inr r.symm)
      · exact Or.inr (Or.inl r)
  · rw [if_neg hc]
    constructor
    · exact fun r => Or.inl r
    · rintro (r | ⟨r, -⟩)
      · exact r
      · exfalso
        rcases r with r | r
        · exact hc ⟨by omega, Or.inl r⟩
        · exact hc ⟨(h.lt hx (by omega) r).1, Or.inr r⟩
