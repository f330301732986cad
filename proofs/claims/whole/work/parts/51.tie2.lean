/-! THE CLASS'S BACKS: never too much, and to be had -/
theorem bit_lt {S i n : Nat} (h : S < 2 ^ n) (hb : S.testBit i = true) : i < n := by
  rcases Nat.lt_or_ge i n with h1 | h1
  · exact h1
  · rw [Nat.testBit_lt_two_pow (Nat.lt_of_lt_of_le h (Nat.pow_le_pow_right (by decide) h1))] at hb
    cases hb
section Tie
variable {σ : Nat → Nat → Int} {n nv v : Nat}
abbrev bhS (σ : Nat → Nat → Int) : Nat → Nat := fun i => (σ 10 i).toNat
abbrev ahS (σ : Nat → Nat → Int) : Nat → Nat := fun i => (σ 9 i).toNat
def Msub (σ : Nat → Nat → Int) (n v : Nat) : Nat → Prop := fun S => S < 2 ^ n ∧ mayB σ n v S = true
theorem Msub_wo (hT : tI σ n nv) : ∀ S s, Msub σ n v S → S.testBit s = true → Msub σ n v (wo S s) :=
  fun S s h hb => ⟨Nat.lt_trans (wo_lt hb) h.1, mayB_sub hT.2.1 hT.2.2.2.2.1 h.2⟩
theorem wyS_nn (hT : tI σ n nv) : ∀ a b, a < 8 → b < 8 → 0 ≤ wyS σ a b := fun a b ha hb => (hT.2.2.2.2.2.2.2.2.2.2.2.2.2.2.2.2.2.2 (a * 8 + b) (by omega)).1
theorem bk_rec' (hT : tI σ n nv) : ∀ S s, Msub σ n v S → s < n → S.testBit s = true → bkI σ n v (2 ^ n - 1) 19 (S * 7 + s) = rdF n (wyS σ) (σ 3) (σ 4) (σ 5) (σ 13 v) (bhS σ) (fun S i => bkI σ n v (2 ^ n - 1) 19 (S * 7 + i)) S s :=
  fun S s h hs hb => bk_rec hT.2.1 (by have := h.1; omega) hs hb h.2
/-- a row that may be driven is back no sooner than the table says -/
theorem bk_opt (hT : tI σ n nv) (htr : ∀ i j, i < n → j < n → (bhS σ i).testBit j = (ahS σ j).testBit i) {q : List Nat} {b : Int} (hq : q ≠ []) (hv : vld n (ahS σ) q) (hm : mayB σ n v (lset q) = true) (hf : fwd (wyS σ) (σ 3) (σ 4) (σ 5) q (σ 13 v) 7 = some b) (hd : b ≤ σ 14 v) (hbn : b < NV) : bkI σ n v (2 ^ n - 1) 18 (v * 128 + lset q) ≤ b ∧ bkI σ n v (2 ^ n - 1) 18 (v * 128 + lset q) < NV := by
  have hlt : lset q < 2 ^ n := Nat.lt_pow_two_of_testBit _ (fun i hi => by
    cases hb : (lset q).testBit i with
    | false => rfl
    | true => have := lset_lt n (ahS σ) hv i hb; omega)
  have h0 : 0 < lset q := by
    cases q with
    | nil => exact absurd rfl hq
    | cons s r => exact Nat.pos_of_ne_zero lset_ne
  rw [bk_val hT.2.1 (by omega) h0, if_pos hm]
  have hr := (vld_rev htr).mpr hv
  cases hqr : q.reverse with
  | nil => simp at hqr; exact absurd hqr hq
  | cons s r =>
    have hq2 : q = (s :: r).reverse := by rw [← hqr, List.reverse_reverse]
    have hfy : fwd (wyS σ) (σ 3) (σ 4) (σ 5) q (σ 13 v) 7 = (rdy (wyS σ) (σ 3) (σ 4) (σ 5) (σ 13 v) q.reverse).map (fun x => x + wyS σ (q.reverse.headD 0) 7) := by
      cases hqq : q with
      | nil => exact absurd hqq hq
      | cons a l => exact fwd_yard (wyS σ) (σ 3) (σ 4) (σ 5) (σ 13 v) a l
    rw [hf, hqr] at hfy
    rw [hqr] at hr
    cases hrd : rdy (wyS σ) (σ 3) (σ 4) (σ 5) (σ 13 v) (s :: r) with
    | none => rw [hrd] at hfy; cases hfy
    | some t =>
      rw [hrd] at hfy
      have hb : b = t + wyS σ s 7 := by simpa using hfy
      have hl : lset (s :: r) = lset q := by rw [← hqr, lset_rev]
      have ho := rd_opt n (wyS σ) (σ 3) (σ 4) (σ 5) (σ 13 v) (bhS σ) (M := Msub σ n v) (Msub_wo hT) (bk_rec' hT) r s t hr (by rw [hl]; exact ⟨hlt, hm⟩) hrd
      rw [hl] at ho
      have hmn := mnF_le (P := fun i => (lset q).testBit i) (f := fun i => bkI σ n v (2 ^ n - 1) 19 (lset q * 7 + i) + wyS σ i 7) (x := NV) (n := n) (i := s) hr.1 (by rw [← hl]; exact lset_head)
      have hmn' : mnF (fun i => (lset q).testBit i) (fun i => bkI σ n v (2 ^ n - 1) 19 (lset q * 7 + i) + wyS σ i 7) NV n ≤ b := by
        refine Int.le_trans hmn ?_
        show bkI σ n v (2 ^ n - 1) 19 (lset q * 7 + s) + wyS σ s 7 ≤ b
        omega
      rw [if_pos (by omega)]
      exact ⟨hmn', by omega⟩
/-- what the table says is a row's -/
theorem bk_has (hT : tI σ n nv) (htr : ∀ i j, i < n → j < n → (bhS σ i).testBit j = (ahS σ j).testBit i) {S : Nat} (h0 : 0 < S) (hS : S < 2 ^ n) (hne : bkI σ n v (2 ^ n - 1) 18 (v * 128 + S) ≠ NV) : ∃ q, q ≠ [] ∧ vld n (ahS σ) q ∧ lset q = S ∧ mayB σ n v S = true ∧ fwd (wyS σ) (σ 3) (σ 4) (σ 5) q (σ 13 v) 7 = some (bkI σ n v (2 ^ n - 1) 18 (v * 128 + S)) ∧ bkI σ n v (2 ^ n - 1) 18 (v * 128 + S) ≤ σ 14 v := by
  rw [bk_val hT.2.1 (by omega) h0] at hne ⊢
  by_cases hm : mayB σ n v S = true
  · rw [if_pos hm] at hne ⊢
    by_cases hd : mnF (fun i => S.testBit i) (fun i => bkI σ n v (2 ^ n - 1) 19 (S * 7 + i) + wyS σ i 7) NV n ≤ σ 14 v
    · rw [if_pos hd] at hne ⊢
      rcases mnF_ex (fun i => S.testBit i) (fun i => bkI σ n v (2 ^ n - 1) 19 (S * 7 + i) + wyS σ i 7) NV n with e | ⟨s, hs, hb, e⟩
      · exact absurd e hne
      · have hw := wyS_nn hT s 7 (by have := hT.2.1; omega) (by omega)
        have hlt : bkI σ n v (2 ^ n - 1) 19 (S * 7 + s) < NV := by
          have := mnF_x (fun i => S.testBit i) (fun i => bkI σ n v (2 ^ n - 1) 19 (S * 7 + i) + wyS σ i 7) NV n
          have h1 : mnF (fun i => S.testBit i) (fun i => bkI σ n v (2 ^ n - 1) 19 (S * 7 + i) + wyS σ i 7) NV n < NV := by omega
          omega
        obtain ⟨r, v1, v2, v3⟩ := rd_has n (wyS σ) (σ 3) (σ 4) (σ 5) (σ 13 v) (bhS σ) (M := Msub σ n v) (Msub_wo hT) (fun S s h hb => bit_lt h.1 hb) (bk_rec' hT) (fun s hs => by have := hT.2.2.2.2.2.2.1 s (by have := hT.2.1; omega); unfold NV; omega) (wyS_nn hT) hT.2.1 S S s (Nat.le_refl S) ⟨hS, hm⟩ hb hlt
        refine ⟨(s :: r).reverse, by simp, ?_, by rw [lset_rev]; exact v2, hm, ?_, hd⟩
        · rw [← vld_rev htr, List.reverse_reverse]; exact v1
        · cases hq : (s :: r).reverse with
          | nil => simp at hq
          | cons a l =>
            have h2 : (a :: l).reverse = s :: r := by rw [← hq, List.reverse_reverse]
            rw [fwd_yard, h2, v3, e]
            rfl
    · rw [if_neg hd] at hne; exact absurd rfl hne
  · rw [if_neg hm] at hne; exact absurd rfl hne
end Tie
