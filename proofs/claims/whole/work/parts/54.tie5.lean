/-! BOTH WERE TOLD THE SAME -/
def TT (σ : Nat → Nat → Int) (n nv : Nat) : Prop := tI σ n nv ∧ mI σ n nv ∧ (∀ i, i < n → σ 33 i = σ 2 i ∧ σ 34 i = σ 3 i ∧ σ 35 i = σ 4 i ∧ σ 36 i = σ 5 i ∧ σ 37 i = σ 6 i ∧ σ 38 i = σ 7 i) ∧ (∀ i, i < nv → σ 41 i = σ 12 i ∧ σ 42 i = σ 13 i ∧ σ 43 i = σ 14 i ∧ σ 44 i = σ 15 i) ∧ (∀ i, i < 64 → σ 45 i = σ 16 i) ∧ (∀ i j, i < 7 → j < 7 → ((σ 8 i).toNat.testBit j = true ↔ σ 39 (7 * i + j) ≠ 0)) ∧ (∀ i j, i < 7 → j < 7 → ((σ 10 i).toNat.testBit j = true ↔ σ 40 (7 * i + j) ≠ 0)) ∧ (∀ i j, i < 7 → j < 7 → ((σ 9 j).toNat.testBit i = true ↔ σ 40 (7 * i + j) ≠ 0)) ∧ (∀ i j, i < 7 → j < 7 → σ 39 (7 * i + j) = σ 39 (7 * j + i)) ∧ (∀ i, i < 7 → σ 39 (7 * i + i) = 0)
theorem TT.congr {σ σ' : Nat → Nat → Int} {n nv : Nat} (h : TT σ n nv) (e1 : ∀ k, k ≤ 16 → σ' k = σ k) (e0 : σ' 32 0 = σ 32 0) (e9 : σ' 32 9 = σ 32 9) (e2 : ∀ k, 33 ≤ k → k ≤ 45 → σ' k = σ k) : TT σ' n nv := by
  obtain ⟨a, b, c⟩ := h
  refine ⟨a.congr e1, b.congr e0 e9 e2, ?_⟩
  simp only [e1 2 (by omega), e1 3 (by omega), e1 4 (by omega), e1 5 (by omega), e1 6 (by omega), e1 7 (by omega), e1 8 (by omega), e1 9 (by omega), e1 10 (by omega), e1 12 (by omega), e1 13 (by omega), e1 14 (by omega), e1 15 (by omega), e1 16 (by omega), e2 33 (by omega) (by omega), e2 34 (by omega) (by omega), e2 35 (by omega) (by omega), e2 36 (by omega) (by omega), e2 37 (by omega) (by omega), e2 38 (by omega) (by omega), e2 39 (by omega) (by omega), e2 40 (by omega) (by omega), e2 41 (by omega) (by omega), e2 42 (by omega) (by omega), e2 43 (by omega) (by omega), e2 44 (by omega) (by omega), e2 45 (by omega) (by omega)]
  exact c
theorem bool_iff {a b : Bool} {P : Prop} (h1 : a = true ↔ P) (h2 : b = true ↔ P) : a = b := by
  cases a <;> cases b <;> simp_all
theorem TT.tr {σ : Nat → Nat → Int} {n nv : Nat} (h : TT σ n nv) : ∀ i j, i < n → j < n → (bhS σ i).testBit j = (ahS σ j).testBit i := by
  obtain ⟨hT, -, -, -, -, -, h10, h9, -⟩ := h
  intro i j hi hj
  have := hT.2.1
  exact bool_iff (h10 i j (by omega) (by omega)) (h9 i j (by omega) (by omega))
theorem fwd_congr {Wy Wy' : Nat → Nat → Int} {F La Sv F' La' Sv' : Nat → Int} {n : Nat} (hW : ∀ a b, a < 8 → b < 8 → Wy' a b = Wy a b) (hF : ∀ s, s < n → F' s = F s) (hL : ∀ s, s < n → La' s = La s) (hS : ∀ s, s < n → Sv' s = Sv s) (hn : n ≤ 7) : ∀ (q : List Nat) (t : Int) (p : Nat), p < 8 → (∀ s ∈ q, s < n) → fwd Wy' F' La' Sv' q t p = fwd Wy F La Sv q t p
  | [], t, p, hp, _ => by
    show some (t + Wy' p 7) = some (t + Wy p 7)
    rw [hW p 7 hp (by omega)]
  | s :: r, t, p, hp, hq => by
    have hs := hq s List.mem_cons_self
    show (stp F' La' Sv' s (t + Wy' p s)).bind (fun t' => fwd Wy' F' La' Sv' r t' s) = (stp F La Sv s (t + Wy p s)).bind (fun t' => fwd Wy F La Sv r t' s)
    have e : stp F' La' Sv' s (t + Wy' p s) = stp F La Sv s (t + Wy p s) := by
      unfold stp
      rw [hW p s hp (by omega), hF s hs, hL s hs, hS s hs]
    rw [e]
    cases stp F La Sv s (t + Wy p s) with
    | none => rfl
    | some t' => exact fwd_congr hW hF hL hS hn r t' s (by omega) (fun x hx => hq x (List.mem_cons_of_mem _ hx))
theorem TT.fwe {σ : Nat → Nat → Int} {n nv v : Nat} (h : TT σ n nv) (hv : v < nv) {q : List Nat} (hq : ∀ s ∈ q, s < n) : fwd (wyM σ) (σ 34) (σ 35) (σ 36) q (σ 42 v) 7 = fwd (wyS σ) (σ 3) (σ 4) (σ 5) q (σ 13 v) 7 := by
  obtain ⟨hT, -, hd, hc, hw, -⟩ := h
  rw [(hc v hv).2.1]
  refine fwd_congr (fun a b ha hb => ?_) (fun s hs => (hd s hs).2.1) (fun s hs => (hd s hs).2.2.1) (fun s hs => (hd s hs).2.2.2.1) hT.2.1 q _ 7 (by decide) hq
  unfold wyM wyS
  rw [hw (8 * a + b) (by omega), Nat.mul_comm]
/-- what a vehicle may have, by the set -/
def sbF (σ : Nat → Nat → Int) (S : Nat) : Nat → Int
  | 0 => 0
  | i + 1 => if S.testBit i = true then sbF σ S i + σ 2 i else sbF σ S i
def okS (σ : Nat → Nat → Int) (v S i : Nat) : Prop := ¬ ((σ 7 i ≠ -1 ∧ σ 7 i ≠ (v : Int)) ∨ ¬ (σ 8 i).toNat &&& S = 0)
theorem mh_iff {σ : Nat → Nat → Int} {v S : Nat} : ∀ (i : Nat) (ld : Int), mhF σ v S i = some ld ↔ (∀ k, k < i → S.testBit k = true → okS σ v S k) ∧ ld = sbF σ S i
  | 0, ld => by
    unfold mhF sbF
    constructor
    · intro h; cases h; exact ⟨fun k hk => by omega, rfl⟩
    · rintro ⟨-, h⟩; rw [h]
  | i + 1, ld => by
    constructor
    · intro h
      cases hq : mhF σ v S i with
      | none => rw [mhF, hq] at h; cases h
      | some l0 =>
        obtain ⟨a, b⟩ := (mh_iff i l0).mp hq
        by_cases hb : S.testBit i = true
        · by_cases hc : (σ 7 i ≠ -1 ∧ σ 7 i ≠ (v : Int)) ∨ ¬ (σ 8 i).toNat &&& S = 0
          · rw [mhF, hq] at h; dsimp only at h; rw [if_pos hb, if_pos hc] at h; cases h
          · rw [mhF_t hq hb hc] at h
            cases h
            refine ⟨fun k hk hkb => ?_, by rw [sbF, if_pos hb, b]⟩
            by_cases e : k = i
            · subst e; exact hc
            · exact a k (by omega) hkb
        · rw [mhF_f hq hb] at h
          cases h
          refine ⟨fun k hk hkb => ?_, by rw [sbF, if_neg hb, b]⟩
          by_cases e : k = i
          · subst e; exact absurd hkb hb
          · exact a k (by omega) hkb
    · rintro ⟨a, b⟩
      have hq := (mh_iff i (sbF σ S i)).mpr ⟨fun k hk => a k (by omega), rfl⟩
      by_cases hb : S.testBit i = true
      · rw [mhF_t hq hb (a i (by omega) hb), b, sbF, if_pos hb]
      · rw [mhF_f hq hb, b, sbF, if_neg hb]
theorem may_iff {σ : Nat → Nat → Int} {n v S : Nat} : mayB σ n v S = true ↔ (∀ k, k < n → S.testBit k = true → okS σ v S k) ∧ sbF σ S n ≤ σ 12 v := by
  unfold mayB
  cases hq : mhF σ v S n with
  | none =>
    constructor
    · intro h; cases h
    · rintro ⟨a, -⟩
      rw [(mh_iff n (sbF σ S n)).mpr ⟨a, rfl⟩] at hq
      cases hq
  | some ld =>
    obtain ⟨a, b⟩ := (mh_iff n ld).mp hq
    simp only [decide_eq_true_eq]
    rw [b]
    exact ⟨fun h => ⟨a, h⟩, fun h => h.2⟩
theorem sbF_wi {σ : Nat → Nat → Int} {S s : Nat} (h : S.testBit s = false) : ∀ i, sbF σ (wi S s) i = sbF σ S i + if s < i then σ 2 s else 0
  | 0 => by simp [sbF]
  | i + 1 => by
    have ih := sbF_wi (σ := σ) h i
    by_cases e : i = s
    · subst e
      rw [sbF, sbF, if_pos (by rw [wi_bit]; simp), if_neg (by rw [h]; simp), ih, if_neg (by omega), if_pos (by omega)]
      omega
    · have hb : (wi S s).testBit i = S.testBit i := by rw [wi_bit]; simp [Ne.symm e]
      have hl : (s < i + 1) = (s < i) := by apply propext; omega
      rw [sbF, sbF, hb, ih]
      simp only [hl]
      split <;> omega
theorem sbF_0 {σ : Nat → Nat → Int} : ∀ i, sbF σ 0 i = 0
  | 0 => rfl
  | i + 1 => by rw [sbF, if_neg (by simp), sbF_0 i]
theorem sbF_ld {σ : Nat → Nat → Int} {n : Nat} (hd : ∀ i, i < n → σ 33 i = σ 2 i) : ∀ (q : List Nat), (∀ s ∈ q, s < n) → q.Nodup → sbF σ (lset q) n = ldM σ q
  | [], _, _ => sbF_0 n
  | s :: r, h, hn => by
    have hs := h s List.mem_cons_self
    rw [List.nodup_cons] at hn
    rw [show lset (s :: r) = wi (lset r) s from rfl, sbF_wi (lset_not.mpr hn.1), if_pos hs, sbF_ld hd r (fun x hx => h x (List.mem_cons_of_mem _ hx)) hn.2, ldM, hd s hs]
    omega
theorem pw_sym {R : Nat → Nat → Prop} (hs : ∀ a b, R a b → R b a) {q : List Nat} (hn : q.Nodup) : q.Pairwise R ↔ ∀ a ∈ q, ∀ b ∈ q, a ≠ b → R a b := by
  induction q with
  | nil => simp
  | cons s r ih =>
    rw [List.nodup_cons] at hn
    rw [List.pairwise_cons, ih hn.2]
    constructor
    · rintro ⟨h1, h2⟩ a ha b hb hab
      rcases List.mem_cons.mp ha with e1 | ha' <;> rcases List.mem_cons.mp hb with e2 | hb'
      · exact absurd (e1.trans e2.symm) hab
      · rw [e1]; exact h1 b hb'
      · rw [e2]; exact hs _ _ (h1 a ha')
      · exact h2 a ha' b hb' hab
    · intro h
      refine ⟨fun b hb => h s List.mem_cons_self b (List.mem_cons_of_mem _ hb) (fun e => hn.1 (e ▸ hb)), fun a ha b hb hab => h a (List.mem_cons_of_mem _ ha) b (List.mem_cons_of_mem _ hb) hab⟩
/-- the class's 'may' and the reference's are one -/
theorem TT.ok {σ : Nat → Nat → Int} {n nv v : Nat} (h : TT σ n nv) (hv : v < nv) {q : List Nat} : (okM σ n v q ∧ ldM σ q ≤ σ 41 v) ↔ (vld n (ahS σ) q ∧ mayB σ n v (lset q) = true) := by
  obtain ⟨hT, hM, hd, hc, hw, h8, h10, h9, hsym, h0⟩ := h
  have hn7 := hT.2.1
  rw [vld_iff, may_iff, (hc v hv).1]
  unfold okM okS
  constructor
  · rintro ⟨⟨a, b⟩, c⟩
    have hlt : ∀ s ∈ q, s < n := fun s hs => (a s hs).1
    have hnd : q.Nodup := b.imp (fun hab => hab.1)
    have hap : q.Pairwise (fun x y => σ 39 (7 * x + y) = 0) := b.imp (fun hab => hab.2.1)
    have hlt7 : ∀ s ∈ q, s < 7 := fun s hs => by have := hlt s hs; omega
    have hap2 : ∀ x ∈ q, ∀ y ∈ q, σ 39 (7 * x + y) = 0 := by
      intro x hx y hy
      by_cases e : x = y
      · subst e; exact h0 x (hlt7 x hx)
      · have hp2 : q.Pairwise (fun x y => σ 39 (7 * x + y) = 0 ∧ σ 39 (7 * y + x) = 0) := List.Pairwise.imp_of_mem (fun {x y} hx hy hxy => ⟨hxy, by rw [← hsym x y (hlt7 x hx) (hlt7 y hy)]; exact hxy⟩) hap
        exact ((pw_sym (fun a b hab => ⟨hab.2, hab.1⟩) hnd).mp hp2 x hx y hy e).1
    refine ⟨⟨hlt, hnd, List.Pairwise.imp_of_mem (fun {x y} hx hy hxy => ?_) b⟩, ⟨fun k hk hb => ?_, ?_⟩⟩
    · have := h9 y x (hlt7 y hy) (hlt7 x hx)
      cases hbb : (ahS σ x).testBit y with
      | false => rfl
      | true => exact absurd hxy.2.2 (this.mp hbb)
    · have hkq := lset_mem.mp hb
      rintro (z | z)
      · have := (a k hkq).2
        rw [(hd k hk).2.2.2.2.2] at this
        rcases this with t | t
        · exact z.1 t
        · exact z.2 t
      · refine z (and_lset.mpr (fun y hy => ?_))
        cases hbb : (σ 8 k).toNat.testBit y with
        | false => rfl
        | true => exact absurd (hap2 k hkq y hy) ((h8 k y (by omega) (hlt7 y hy)).mp hbb)
    · rw [sbF_ld (fun i hi => (hd i hi).1) q hlt hnd]; exact c
  · rintro ⟨⟨hlt, hnd, b⟩, ⟨a, c⟩⟩
    have hlt7 : ∀ s ∈ q, s < 7 := fun s hs => by have := hlt s hs; omega
    rw [sbF_ld (fun i hi => (hd i hi).1) q hlt hnd] at c
    refine ⟨⟨fun x hx => ⟨hlt x hx, ?_⟩, ?_⟩, c⟩
    · have h1 := a x (hlt x hx) (lset_mem.mpr hx)
      rw [(hd x (hlt x hx)).2.2.2.2.2]
      omega
    · have hnd2 : q.Pairwise (fun x y => x ≠ y) := hnd
      refine List.Pairwise.imp_of_mem (fun {x y} hx hy hxy => ?_) (hnd2.and b)
      refine ⟨hxy.1, ?_, ?_⟩
      · have h1 := a x (hlt x hx) (lset_mem.mpr hx)
        have h2 : (σ 8 x).toNat &&& lset q = 0 := Decidable.byContradiction (fun z => h1 (Or.inr z))
        have h3 := and_lset.mp h2 y hy
        refine Decidable.byContradiction (fun z => ?_)
        rw [(h8 x y (hlt7 x hx) (hlt7 y hy)).mpr z] at h3
        cases h3
      · refine Decidable.byContradiction (fun z => ?_)
        have h3 := hxy.2
        rw [show (ahS σ x).testBit y = true from (h9 y x (hlt7 y hy) (hlt7 x hx)).mpr z] at h3
        cases h3
