/-! RUN, THE CLASS'S: what is found -/
theorem vc_pos {τ : Nat → Nat → Int} {n p : Nat} {r : Int} : ∀ v c, vcF τ n p r v = some c → ∀ j, j < v → siF p j n ≠ 0 → 0 ≤ τ 46 (128 * j + siF p j n)
  | 0, _, _, j, hj, _ => by omega
  | v + 1, c, h, j, hj, h0 => by
    cases hq : vcF τ n p r v with
    | none => rw [vcF, hq] at h; cases h
    | some c0 =>
      by_cases e : j = v
      · subst e
        by_cases h1 : (j : Int) = r ∨ τ 46 (128 * j + siF p j n) < 0
        · rw [vcF_x hq h0 h1] at h; cases h
        · omega
      · exact vc_pos v c0 hq j (by omega) h0
/-- the row of a vehicle by a plan; when a stop is begun by it -/
def qx (σ : Nat → Nat → Int) (n b x : Nat) : List Nat := if siF b x n = 0 then [] else (bestM σ n x (siF b x n)).2
def Gx (σ : Nat → Nat → Int) (n b x s : Nat) : Int := bgk (wyS σ) (σ 3) (σ 5) (qx σ n b x) (σ 13 x) 7 ((qx σ n b x).idxOf s)
/-- a plan whose rounds there are -/
def plI (σ : Nat → Nat → Int) (n nv b : Nat) : Prop := (∀ i, i < n → dg b i = 3 ∨ dg b i < nv) ∧ ∀ x, x < nv → siF b x n ≠ 0 → 0 ≤ (bestM σ n x (siF b x n)).1
theorem qx_ok {σ : Nat → Nat → Int} {n nv b x : Nat} (h : TT σ n nv) (hp : plI σ n nv b) (hx : x < nv) : (qx σ n b x).Nodup ∧ (qx σ n b x).length ≤ 7 ∧ (∀ s ∈ qx σ n b x, s < n) ∧ (∀ s, s ∈ qx σ n b x ↔ s < n ∧ dg b s = x) ∧ (qx σ n b x).length = cnt (fun i => (siF b x n).testBit i) n := by
  have hn := h.1.2.1
  unfold qx
  by_cases h0 : siF b x n = 0
  · rw [if_pos h0]
    refine ⟨List.nodup_nil, by simp, fun s hs => absurd hs List.not_mem_nil, fun s => ⟨fun hs => absurd hs List.not_mem_nil, fun hs => ?_⟩, ?_⟩
    · have : (siF b x n).testBit s = true := by rw [siF_bit]; simp [hs.1, hs.2]
      rw [h0] at this
      simp at this
    · rw [h0, cnt_zero]; rfl
  · rw [if_neg h0]
    have hE := hp.2 x hx h0
    rcases best_tie h hx (show 0 < siF b x n by omega) siF_lt2 with ⟨a, -⟩ | ⟨-, -, -, -, -, -, b7, -, b9, -⟩
    · omega
    · have hv := vld_iff.mp b7
      have hl := vld_len b7
      rw [b9] at hl
      refine ⟨hv.2.1, by rw [hl]; have := cnt_le (fun i => (siF b x n).testBit i) n; omega, hv.1, fun s => ?_, hl⟩
      rw [← lset_mem, b9, siF_bit]
      simp
theorem getD_idx {q : List Nat} {s : Nat} (h : s ∈ q) : q.idxOf s < q.length ∧ q.getD (q.idxOf s) 0 = s := by
  have h1 := List.idxOf_lt_length_of_mem h
  refine ⟨h1, ?_⟩
  rw [List.getD_eq_getElem?_getD, List.getElem?_eq_getElem h1]
  simp
/-- between two vehicles of the class's loop -/
def cV (σ : Nat → Nat → Int) (n nv b : Nat) (τ : Nat → Nat → Int) (v : Nat) : Prop :=
  (∀ s, s < n → τ 27 s = if dg b s < v then Gx σ n b (dg b s) s else -1) ∧ (∀ x, x < v → τ 29 x = ((qx σ n b x).length : Int) ∧ (∀ k, k < (qx σ n b x).length → τ 28 (x * 7 + k) = (((qx σ n b x).getD k 0 : Nat) : Int)) ∧ τ 30 x = if siF b x n = 0 then -1 else (bestM σ n x (siF b x n)).1) ∧ (∀ x, v ≤ x → x < 3 → τ 29 x = 0 ∧ τ 30 x = -1)
theorem cV_step {σ τ : Nat → Nat → Int} {n nv b v : Nat} (h : TT σ n nv) (hp : plI σ n nv b) (hv : v < nv) (hτ : ∀ k, k ≤ 16 → τ k = σ k) (h18 : siF b v n ≠ 0 → τ 18 (v * 128 + siF b v n) = (bestM σ n v (siF b v n)).1) (hc : cV σ n nv b τ v) :
    cV σ n nv b (if siF b v n = 0 then τ else dvF n v 7 7 (τ 13 v) (siF b v n) (ltO τ n (siF b v n) (τ 18 (v * 128 + siF b v n)) (siF b v n))) (v + 1) := by
  have hn := h.1.2.1
  have hv3 : v < 3 := by have := h.1.2.2.2.1; omega
  obtain ⟨c1, c2, c3⟩ := hc
  obtain ⟨q1, q2, q3, q4, q5⟩ := qx_ok h hp hv
  by_cases h0 : siF b v n = 0
  · rw [if_pos h0]
    have hq0 : qx σ n b v = [] := by unfold qx; rw [if_pos h0]
    refine ⟨fun s hs => ?_, fun x hx => ?_, fun x hx1 hx2 => c3 x (by omega) hx2⟩
    · rw [c1 s hs]
      have hne : dg b s ≠ v := by
        intro z
        have := (q4 s).mpr ⟨hs, z⟩
        rw [hq0] at this
        exact absurd this List.not_mem_nil
      by_cases e : dg b s < v
      · rw [if_pos e, if_pos (by omega)]
      · rw [if_neg e, if_neg (by omega)]
    · by_cases e : x = v
      · subst e
        obtain ⟨d1, d2⟩ := c3 x (Nat.le_refl x) hv3
        rw [hq0, if_pos h0]
        exact ⟨d1, fun k hk => by simp at hk, d2⟩
      · exact c2 x (by omega)
  · rw [if_neg h0]
    have hE := hp.2 v hv h0
    have hqx : qx σ n b v = (bestM σ n v (siF b v n)).2 := by unfold qx; rw [if_neg h0]
    have hS0 : 0 < siF b v n := by omega
    have hSn : siF b v n < 2 ^ n := siF_lt2
    rw [h18 h0, show τ 13 = σ 13 from hτ 13 (by decide)]
    have hdt := drv_tie (τ := τ) h hv hS0 hSn hE hτ
    rcases best_tie h hv hS0 hSn with ⟨a, -⟩ | ⟨-, -, -, -, -, -, b7, -, b9, b10, -⟩
    · omega
    have hdv := dv_nL (σ := σ) (L := ltO τ n (siF b v n) (bestM σ n v (siF b v n)).1 (siF b v n)) (n := n) (v := v) (ah := ahS σ) 7 7 (σ 13 v) (siF b v n) (ltO τ n (siF b v n) (bestM σ n v (siF b v n)).1 (siF b v n)) (by rw [ltO_ne (by decide)]; exact hτ 3 (by decide)) (by rw [ltO_ne (by decide)]; exact hτ 5 (by decide)) (by rw [ltO_ne (by decide)]; exact hτ 16 (by decide)) rfl (by rw [hdt]; exact b7) (by rw [hdt]; exact b9)
    rw [hdv, hdt, ← hqx]
    obtain ⟨d1, d2⟩ := c3 v (Nat.le_refl v) hv3
    obtain ⟨a1, a2, a3, a4, a5, a6, a7, a8, a9⟩ := nL_eff (σ := σ) (v := v) (qx σ n b v) (σ 13 v) 7 0 (ltO τ n (siF b v n) (bestM σ n v (siF b v n)).1 (siF b v n)) (by rw [ltO_ne (by decide)]; exact d1) (by omega) q1
    refine ⟨fun s hs => ?_, fun x hx => ?_, fun x hx1 hx2 => ?_⟩
    · by_cases e : dg b s = v
      · have hm := (q4 s).mpr ⟨hs, e⟩
        obtain ⟨i1, i2⟩ := getD_idx hm
        rw [if_pos (by omega)]
        have := a5 _ i1
        rw [i2] at this
        rw [this, e]
        rfl
      · rw [a6 s (fun z => e ((q4 s).mp z).2), ltO_ne (by decide), c1 s hs]
        by_cases e2 : dg b s < v
        · rw [if_pos e2, if_pos (by omega)]
        · rw [if_neg e2, if_neg (by omega)]
    · by_cases e : x = v
      · subst e
        rw [if_neg h0]
        refine ⟨by rw [a1]; omega, fun k hk => ?_, ?_⟩
        · have := a3 k hk
          rw [Nat.add_zero] at this
          exact this
        · rw [a7, hqx]
          exact end_fwd (wyS σ) (σ 3) (σ 5) _ _ 7 _ b10
      · obtain ⟨e1, e2, e3⟩ := c2 x (by omega)
        refine ⟨by rw [a2 x e, ltO_ne (by decide)]; exact e1, fun k hk => ?_, by rw [a8 x e, ltO_ne (by decide)]; exact e3⟩
        have := (qx_ok (x := x) h hp (by omega)).2.1
        rw [a4 (x * 7 + k) (by omega), ltO_ne (by decide)]
        exact e2 k hk
    · obtain ⟨f1, f2⟩ := c3 x (by omega) hx2
      refine ⟨by rw [a2 x (by omega), ltO_ne (by decide)]; exact f1, by rw [a8 x (by omega), ltO_ne (by decide)]; exact f2⟩
