/-! THE DRIVE: the class's row is the reference's -/
theorem anb_0b : ((List.range 128).all fun P => (List.range 128).all fun S => (anb P S == 0) == (P &&& S == P)) = true := by decide +kernel
theorem anb_0 (P : Nat) (hP : P < 128) (S : Nat) (hS : S < 128) : anb P S = 0 ↔ P &&& S = P := by
  have h := List.all_eq_true.mp (List.all_eq_true.mp anb_0b P (List.mem_range.mpr hP)) S (List.mem_range.mpr hS)
  have h1 : (anb P S == 0) = (P &&& S == P) := eq_of_beq h
  rw [← Bool.coe_iff_coe] at h1
  simpa using h1
theorem ltS_in {σ : Nat → Nat → Int} {n S p s : Nat} {B : Int} (h1 : anb p S = 0) (h2 : p.testBit s = true) : ∀ i, s < i → ltS σ n S B p i 20 (p * 7 + s) = ltG σ n p s B
  | 0, h => by omega
  | i + 1, h => by
    by_cases e : s = i
    · subst e; rw [ltS_t h1 h2, zU_self]
    · unfold ltS
      split
      · rw [zU_nj (by omega)]; exact ltS_in h1 h2 i (by omega)
      · exact ltS_in h1 h2 i (by omega)
theorem ltO_stay {σ : Nat → Nat → Int} {n S P i : Nat} {B : Int} (hn : n ≤ 7) (hi : i < 7) : ∀ j, P ≤ j → ltO σ n S B j 20 (P * 7 + i) = ltO σ n S B P 20 (P * 7 + i) := by
  intro j hj
  induction j with
  | zero => have : P = 0 := by omega
            subst this; rfl
  | succ j ih =>
    by_cases e : P = j + 1
    · subst e; rfl
    · rw [← ih (by omega), ltO, ltS_out n (by omega)]
theorem ltG_tell {σ τ : Nat → Nat → Int} {n P s : Nat} {B : Int} (T : Nat → Nat → Int) (h : ∀ k, k ≤ 16 → τ k = σ k) (hT : ∀ i, i < n → (wo P s).testBit i = true → τ 20 (wo P s * 7 + i) = T (wo P s) i) : ltG τ n P s B = ltF n (wyS σ) (σ 3) (σ 4) (σ 5) (ahS σ) B T P s := by
  have e : lvG τ P s B n = lvF n (wyS σ) B (T (wo P s)) (wo P s) s := by
    unfold lvG lvF wyS
    rw [h 16 (by decide)]
    exact mxF_congr n (fun i hi hb => by rw [hT i hi hb])
  unfold ltG ltF
  rw [e, h 9 (by decide), h 4 (by decide), h 3 (by decide), h 5 (by decide)]
theorem lt_rec {σ τ : Nat → Nat → Int} {n S P s : Nat} {B : Int} (hn : n ≤ 7) (hτ : ∀ k, k ≤ 16 → τ k = σ k) (hS : S < 128) (hP : P &&& S = P) (hs : s < n) (hb : P.testBit s = true) : ltO τ n S B S 20 (P * 7 + s) = ltF n (wyS σ) (σ 3) (σ 4) (σ 5) (ahS σ) B (fun P i => ltO τ n S B S 20 (P * 7 + i)) P s := by
  have hle : P ≤ S := by rw [← hP]; exact Nat.and_le_right
  obtain ⟨j, rfl⟩ : ∃ j, P = j + 1 := ⟨P - 1, by
    have : P ≠ 0 := by intro h; subst h; simp at hb
    omega⟩
  have hlt := wo_lt hb
  rw [ltO_stay hn (by omega) S hle, ltO, ltS_in ((anb_0 (j + 1) (by omega) S hS).mpr hP) hb n hs]
  refine ltG_tell _ (fun k hk => by rw [ltO_ne (by omega)]; exact hτ k hk) (fun i hi _ => ?_)
  show ltO τ n S B j 20 _ = ltO τ n S B S 20 _
  rw [ltO_stay hn (by omega) j (by omega), ltO_stay hn (by omega) S (by omega)]
theorem wo_and {P S s : Nat} (h : P &&& S = P) : wo P s &&& S = wo P s := by
  apply Nat.eq_of_testBit_eq
  intro i
  rw [Nat.testBit_and, wo_bit]
  have h1 : (P &&& S).testBit i = P.testBit i := by rw [h]
  rw [Nat.testBit_and] at h1
  cases hp : P.testBit i <;> cases hs : S.testBit i <;> simp_all
/-- the row that the class drives is the reference's -/
theorem drv_tie {σ τ : Nat → Nat → Int} {n nv v S : Nat} (h : TT σ n nv) (hv : v < nv) (h0 : 0 < S) (hS : S < 2 ^ n) (hE : 0 ≤ (bestM σ n v S).1) (hτ : ∀ k, k ≤ 16 → τ k = σ k) :
    drv n (wyS σ) (σ 3) (σ 5) (fun P i => ltO τ n S (bestM σ n v S).1 S 20 (P * 7 + i)) 7 7 (σ 13 v) S = (bestM σ n v S).2 := by
  have hn := h.1.2.1
  have hv3 : v < 3 := by have := h.1.2.2.2.1; omega
  have hpw := pow_n hn
  have h13 := h.1.2.2.2.2.2.2.2.2.2.2.2.2.2.2.2.1 v hv3
  rcases best_tie h hv h0 hS with ⟨a, -⟩ | ⟨-, b2, b3, b4, b5, b6, b7, b8, b9, b10, b11⟩
  · omega
  · have hF : ∀ s, s < n → 0 ≤ σ 3 s := fun s hs => (h.1.2.2.2.2.2.1 s (by omega)).1
    have key := drv_ok n (wyS σ) (σ 3) (σ 4) (σ 5) (ahS σ) (bestM σ n v S).1 (T := fun P i => ltO τ n S (bestM σ n v S).1 S 20 (P * 7 + i)) (M := fun P => P &&& S = P ∧ P < 2 ^ n) (fun P s hP hb => ⟨wo_and hP.1, Nat.lt_trans (wo_lt hb) hP.2⟩) (fun P s hP hb => bit_lt hP.2 hb) (fun P s hP hs hb => lt_rec hn hτ (by omega) hP.1 hs hb) hF h.sv (wyS_nn h.1) hn 7 (bestM σ n v S).2 7 (σ 13 v) (bestM σ n v S).1 (by decide) b7 (by rw [vld_len b7]; have := cnt_le (fun i => (lset (bestM σ n v S).2).testBit i) n; omega) h13.1 (by rw [b9]; exact ⟨Nat.and_self S, hS⟩) b10 (Int.le_refl _)
    rw [b9] at key
    obtain ⟨b', k1, k2, k3, k4, k5⟩ := key
    generalize hd : drv n (wyS σ) (σ 3) (σ 5) (fun P i => ltO τ n S (bestM σ n v S).1 S 20 (P * 7 + i)) 7 7 (σ 13 v) S = d at k1 k2 k3 k5 ⊢
    have hdne : d ≠ [] := by
      intro e
      rw [e] at k2
      have : S = 0 := k2.symm
      omega
    obtain ⟨z1, z2⟩ := bk_opt h.1 h.tr hdne k1 (by rw [k2]; exact b6) k3 (by omega) (by omega)
    rw [k2] at z1
    have hbb : b' = (bestM σ n v S).1 := by omega
    rw [hbb] at k3
    have hl2 := b11 d k1 k2 k3
    exact lexLe_anti d _ (by rw [vld_len k1, vld_len b7, k2, b9]) k5 hl2
/-- the class's notes along a row -/
def nL (σ : Nat → Nat → Int) (v : Nat) : List Nat → Int → Nat → (Nat → Nat → Int) → Nat → Nat → Int
  | [], t, p, τ => zU τ 30 v (t + wyS σ p 7)
  | s :: r, t, p, τ => nL σ v r (max (t + wyS σ p s) (σ 3 s) + σ 5 s) s (ntF τ v s (max (t + wyS σ p s) (σ 3 s)))
theorem dv_nL {σ L : Nat → Nat → Int} {n v : Nat} {ah : Nat → Nat} : ∀ (f p : Nat) (t : Int) (P : Nat) (τ : Nat → Nat → Int), τ 3 = σ 3 → τ 5 = σ 5 → τ 16 = σ 16 → τ 20 = L 20 → vld n ah (drv n (wyS σ) (σ 3) (σ 5) (fun P i => L 20 (P * 7 + i)) f p t P) → lset (drv n (wyS σ) (σ 3) (σ 5) (fun P i => L 20 (P * 7 + i)) f p t P) = P → dvF n v f p t P τ = nL σ v (drv n (wyS σ) (σ 3) (σ 5) (fun P i => L 20 (P * 7 + i)) f p t P) t p τ := by
  intro f
  induction f with
  | zero =>
    intro p t P τ e3 e5 e16 e20 hv hl
    show zU τ 30 v (t + wyS τ p 7) = zU τ 30 v (t + wyS σ p 7)
    unfold wyS; rw [e16]
  | succ f ih =>
    intro p t P τ e3 e5 e16 e20 hv hl
    have ew : wyS τ = wyS σ := by funext a b; unfold wyS; rw [e16]
    have efi : fiF τ p t P = fun s => P.testBit s && decide (t + wyS σ p s ≤ L 20 (P * 7 + s)) := by funext s; unfold fiF; rw [ew, e20]
    rw [drv] at hv hl ⊢
    rw [dvF, efi]
    by_cases h0 : P = 0
    · rw [if_pos h0]
      have hno : fsF (fun s => P.testBit s && decide (t + wyS σ p s ≤ L 20 (P * 7 + s))) n = none := by
        cases hq : fsF (fun s => P.testBit s && decide (t + wyS σ p s ≤ L 20 (P * 7 + s))) n with
        | none => rfl
        | some s => have := (fsF_some hq).2.1; rw [h0] at this; simp at this
      rw [hno, ew]
      rfl
    · rw [if_neg h0]
      cases hq : fsF (fun s => P.testBit s && decide (t + wyS σ p s ≤ L 20 (P * 7 + s))) n with
      | none => rw [hq] at hl; exact absurd hl.symm h0
      | some s =>
        rw [hq] at hv hl
        dsimp only at hv hl ⊢
        have hl2 : lset (drv n (wyS σ) (σ 3) (σ 5) (fun P i => L 20 (P * 7 + i)) f s (max (t + wyS σ p s) (σ 3 s) + σ 5 s) (wo P s)) = wo P s := by
          have := wo_wi hv.2.1
          rw [← this]
          show wo (lset (s :: _)) s = wo P s
          rw [hl]
        show dvF n v f s (max (t + wyS τ p s) (τ 3 s) + τ 5 s) (wo P s) (ntF τ v s (max (t + wyS τ p s) (τ 3 s))) = nL σ v (_ :: _) t p τ
        rw [ew, e3, e5]
        exact ih s _ (wo P s) _ (by rw [ntF_ne (by decide) (by decide) (by decide)]; exact e3) (by rw [ntF_ne (by decide) (by decide) (by decide)]; exact e5) (by rw [ntF_ne (by decide) (by decide) (by decide)]; exact e16) (by rw [ntF_ne (by decide) (by decide) (by decide)]; exact e20) hv.2.2.2 hl2
