/-! RUN, THE REFERENCE'S: the whole result -/
def mV (σ : Nat → Nat → Int) (n b : Nat) (τ : Nat → Nat → Int) (v : Nat) : Prop :=
  (∀ s, s < n → τ 50 s = if dg b s < v then Gx σ n b (dg b s) s else -1) ∧ ∀ x, x < v → τ 52 x = ((qx σ n b x).length : Int) ∧ (∀ k, k < (qx σ n b x).length → d8 (τ 51 x).toNat k = (qx σ n b x).getD k 0) ∧ τ 53 x = if siF b x n = 0 then -1 else (bestM σ n x (siF b x n)).1
theorem ttK_in {σ : Nat → Nat → Int} {x : Nat} : ∀ m k, k < m → ttK σ x m 48 k = ((d8 x k : Nat) : Int)
  | 0, k, h => by omega
  | m + 1, k, h => by
    unfold ttK
    by_cases e : k = m
    · subst e; rw [zU_self]
    · rw [zU_nj e]; exact ttK_in m k (by omega)
theorem trL_of {β : Nat → Nat → Int} {q : List Nat} (h : ∀ k, k < q.length → β 48 k = ((q.getD k 0 : Nat) : Int)) : trL β q.length = q := by
  unfold trL
  refine List.ext_getElem (by simp) (fun k h1 h2 => ?_)
  rw [List.getElem_map, List.getElem_range]
  unfold tr
  rw [h k h2, List.getD_eq_getElem?_getD, List.getElem?_eq_getElem h2]
  simp
theorem best_vl {σ : Nat → Nat → Int} {n v S : Nat} (h : 0 ≤ (bestM σ n v S).1) : vlM σ v (bestM σ n v S).2 = (bestM σ n v S).1 := by
  have hfi : fiM σ v S (En σ n v (n + 1) [] n) (bestM σ n v S) := En_fi
  rcases hfi with ⟨h1, -⟩ | ⟨h1, -⟩
  · omega
  · exact h1.symm
theorem tl_step {σ τ : Nat → Nat → Int} {n nv b v : Nat} (h : TT σ n nv) (hp : plI σ n nv b) (hv : v < nv) (hτ : ∀ k, 33 ≤ k → k ≤ 45 → τ k = σ k) (h47 : siF b v n ≠ 0 → τ 47 (128 * v + siF b v n) = ((rwc (bestM σ n v (siF b v n)).2 : Nat) : Int)) (hc : mV σ n b τ v) : mV σ n b (tlF τ n v (siF b v n)) (v + 1) := by
  have hn := h.1.2.1
  have hv3 : v < 3 := by have := h.1.2.2.2.1; omega
  obtain ⟨c1, c2⟩ := hc
  obtain ⟨q1, q2, q3, q4, q5⟩ := qx_ok h hp hv
  by_cases h0 : siF b v n = 0
  · have hq0 : qx σ n b v = [] := by unfold qx; rw [if_pos h0]
    have e : tlF τ n v (siF b v n) = zU (zU τ 52 v ((cnt (fun i => (siF b v n).testBit i) n : Nat) : Int)) 53 v (-1) := by unfold tlF; rw [if_pos h0]; rfl
    rw [e]
    refine ⟨fun s hs => ?_, fun x hx => ?_⟩
    · rw [zU_ne (by decide), zU_ne (by decide), c1 s hs]
      have hne : dg b s ≠ v := by
        intro z
        have := (q4 s).mpr ⟨hs, z⟩
        rw [hq0] at this
        exact absurd this List.not_mem_nil
      by_cases e : dg b s < v
      · rw [if_pos e, if_pos (by omega)]
      · rw [if_neg e, if_neg (by omega)]
    · by_cases e : x = v
      · subst e
        rw [hq0, if_pos h0]
        refine ⟨?_, fun k hk => by simp at hk, by rw [zU_self]⟩
        rw [zU_ne (by decide), zU_self, ← q5, hq0]
      · rw [zU_ne (by decide), zU_nj e, zU_nj e, zU_ne (by decide), zU_ne (by decide), zU_ne (by decide)]
        exact c2 x (by omega)
  · have hE := hp.2 v hv h0
    have hqx : qx σ n b v = (bestM σ n v (siF b v n)).2 := by unfold qx; rw [if_neg h0]
    have hx : τ 47 (128 * v + siF b v n) = ((rwc (qx σ n b v) : Nat) : Int) := by rw [hqx]; exact h47 h0
    have hd8 : ∀ k, d8 (rwc (qx σ n b v)) k = (qx σ n b v).getD k 0 := rwc_d8 _ (fun x hx => by have := q3 x hx; omega)
    have hm : cnt (fun i => (siF b v n).testBit i) n = (qx σ n b v).length := q5.symm
    generalize hβ : tlB τ n v (siF b v n) = β
    have hβk : ∀ k, k ≠ 52 → k ≠ 53 → k ≠ 51 → k ≠ 48 → β k = τ k := fun k a1 a2 a3 a4 => by rw [← hβ]; exact tlB_ne a1 a2 a3 a4
    have hβσ : ∀ k, 33 ≤ k → k ≤ 45 → β k = σ k := fun k k1 k2 => by rw [hβk k (by omega) (by omega) (by omega) (by omega)]; exact hτ k k1 k2
    have htr : trL β (qx σ n b v).length = qx σ n b v := by
      refine trL_of (fun k hk => ?_)
      rw [← hβ]
      unfold tlB
      rw [hm, ttK_in _ k hk, hx, Int.toNat_natCast, hd8]
    have hvl : drR β v (qx σ n b v).length = (bestM σ n v (siF b v n)).1 := by
      rw [drR_vl, htr, vlM_congr hβσ, hqx]
      exact best_vl hE
    have hsome : (drK β v (qx σ n b v).length).isSome = true := by
      cases hq : drK β v (qx σ n b v).length with
      | none => unfold drR at hvl; rw [hq] at hvl; dsimp only at hvl; omega
      | some x => rfl
    obtain ⟨d1, d2⟩ := db_eff (β := β) (v := v) (qx σ n b v).length (by rw [htr]; exact q1) hsome
    have e : tlF τ n v (siF b v n) = zU (dbK β v (qx σ n b v).length) 53 v (bestM σ n v (siF b v n)).1 := by
      unfold tlF
      rw [if_neg h0, hm, hβ, hvl]
    rw [e]
    have h42 := (h.2.2.2.1 v hv).2.1
    have hbg : ∀ k, bgk (wyM β) (β 34) (β 36) (qx σ n b v) (β 42 v) 7 k = bgk (wyS σ) (σ 3) (σ 5) (qx σ n b v) (σ 13 v) 7 k := by
      intro k
      rw [hβσ 42 (by decide) (by decide), h42]
      refine bgk_congr (n := n) (fun a b ha hb => ?_) (fun s hs => ?_) (fun s hs => ?_) hn _ _ 7 k (by decide) q3
      · unfold wyM wyS
        rw [hβσ 45 (by decide) (by decide), h.2.2.2.2.1 (8 * a + b) (by omega), Nat.mul_comm]
      · rw [hβσ 34 (by decide) (by decide)]; exact (h.2.2.1 s hs).2.1
      · rw [hβσ 36 (by decide) (by decide)]; exact (h.2.2.1 s hs).2.2.2.1
    refine ⟨fun s hs => ?_, fun x hx2 => ?_⟩
    · rw [zU_ne (by decide)]
      by_cases e2 : dg b s = v
      · have hmem := (q4 s).mpr ⟨hs, e2⟩
        obtain ⟨i1, i2⟩ := getD_idx hmem
        have := d1 _ i1
        rw [← trL_get (σ := β) i1, htr, i2, hbg] at this
        rw [this, if_pos (by omega), e2]
        rfl
      · rw [d2 s (by rw [htr]; exact fun z => e2 ((q4 s).mp z).2), hβk 50 (by decide) (by decide) (by decide) (by decide), c1 s hs]
        by_cases e3 : dg b s < v
        · rw [if_pos e3, if_pos (by omega)]
        · rw [if_neg e3, if_neg (by omega)]
    · have h52 : β 52 = zU τ 52 v ((qx σ n b v).length : Int) 52 := by
        rw [← hβ]
        unfold tlB
        rw [ttK_ne (by decide), zU_ne (by decide)]
        unfold tlA tcK
        rw [zU_ne (by decide), hm]
      have h51 : β 51 = zU τ 51 v ((rwc (qx σ n b v) : Nat) : Int) 51 := by
        rw [← hβ]
        unfold tlB
        rw [ttK_ne (by decide), hx]
        funext j
        by_cases e2 : j = v
        · subst e2; rw [zU_self, zU_self]
        · rw [zU_nj e2, zU_nj e2, tlA_ne (by decide) (by decide)]
      have h53 : β 53 = zU τ 53 v (-1) 53 := by
        rw [← hβ]
        unfold tlB
        rw [ttK_ne (by decide), zU_ne (by decide)]
        unfold tlA tcK
        funext j
        by_cases e2 : j = v
        · subst e2; rw [zU_self, zU_self]
        · rw [zU_nj e2, zU_nj e2, zU_ne (by decide)]
      rw [zU_ne (by decide), dbK_ne (by decide), zU_ne (by decide), dbK_ne (by decide), h52, h51]
      by_cases e2 : x = v
      · subst e2
        rw [zU_self, zU_self, zU_self, if_neg h0, Int.toNat_natCast]
        exact ⟨rfl, fun k _ => hd8 k, rfl⟩
      · rw [zU_nj e2, zU_nj e2, zU_nj e2, dbK_ne (by decide), h53, zU_nj e2]
        exact c2 x (by omega)
theorem tl_all {σ τ : Nat → Nat → Int} {n nv b : Nat} (h : TT σ n nv) (hp : plI σ n nv b) (hτ : ∀ k, 33 ≤ k → k ≤ 45 → τ k = σ k) (h47 : ∀ v, v < nv → siF b v n ≠ 0 → τ 47 (128 * v + siF b v n) = ((rwc (bestM σ n v (siF b v n)).2 : Nat) : Int)) (hc : mV σ n b τ 0) : ∀ v, v ≤ nv → mV σ n b (tlO τ n b v) v
  | 0, _ => hc
  | v + 1, hv => by
    have ih := tl_all h hp hτ h47 hc v (by omega)
    unfold tlO
    refine tl_step h hp (by omega) (fun k k1 k2 => ?_) (fun h0 => ?_) ih
    · rw [tlO_ne (by omega) (by omega) (by omega) (by omega) (by omega)]; exact hτ k k1 k2
    · rw [tlO_ne (by omega) (by omega) (by omega) (by omega) (by omega)]; exact h47 v (by omega) h0
theorem vhF_50 {τ : Nat → Nat → Int} {b : Nat} : ∀ k j, j < k → vhF τ b k 50 j = -1
  | 0, j, h => by omega
  | k + 1, j, h => by
    unfold vhF
    by_cases e : j = k
    · subst e; rw [zU_self]
    · rw [zU_nj e, zU_ne (by decide)]; exact vhF_50 k j (by omega)
theorem bgF_lo {τ : Nat → Nat → Int} {b : Nat} : ∀ k j, j < k → bgF τ b k 50 j = if dg b j = 3 then -1 else τ 50 j
  | 0, j, h => by omega
  | k + 1, j, h => by
    unfold bgF
    by_cases e : j = k
    · subst e; rw [zU_self]
    · rw [zU_nj e]; exact bgF_lo k j (by omega)
theorem svF_54 {A : Nat → Nat → Int} {n nv b : Nat} : ∀ v x, x < v → svF A n nv b v 54 x = coF A n nv (bpN A n nv (x : Int)) (x : Int) - coF A n nv b (-1)
  | 0, x, h => by omega
  | v + 1, x, h => by
    unfold svF
    by_cases e : x = v
    · subst e; rw [zU_self]
    · rw [zU_nj e]; exact svF_54 v x (by omega)
/-- what is found, in a store: by the reference -/
def fdM (σ A τ : Nat → Nat → Int) (n nv : Nat) : Prop :=
  τ 32 18 = 1 ∧ τ 32 19 = n ∧ τ 32 20 = nv ∧ τ 32 21 = coF A n nv (bpN A n nv (-1)) (-1) ∧ (∀ i, i < n → τ 49 i = (dg (bpN A n nv (-1)) i : Int)) ∧ mV σ n (bpN A n nv (-1)) τ nv ∧ ∀ v, v < nv → τ 54 v = coF A n nv (bpN A n nv (v : Int)) (v : Int) - coF A n nv (bpN A n nv (-1)) (-1)
theorem mdl_run {σ σ' : Nat → Nat → Int} {n nv : Nat} (h : TT σ n nv) (hs : sameM σ σ') (a : bd σ' 48 7 0 6) (b : bd σ' 46 384 (-1) 150000) (d : bd σ' 47 384 0 2097151) (w : rwI σ') : fdM σ (daF σ' n nv) (mdF σ' n nv) n nv := by
  have hn := h.1.2.1
  have hp := pow_n hn
  have hv3 := h.1.2.2.2.1
  have hM' : mI σ' n nv := h.2.1.congr hs.1 hs.2.1 hs.2.2
  have hP := pl_best h hs a b d w
  unfold mdF
  generalize hB : bpN (daF σ' n nv) n nv (-1) = B at hP
  have hall := tl_all (τ := vhF (svF (daF σ' n nv) n nv B nv) B n) h hP (fun k k1 k2 => by rw [vhF_ne (by omega) (by omega), svF_ne (by omega) (by omega), daF_ne (by omega) (by omega) (by omega) (by omega)]; exact hs.2.2 k k1 k2) (fun v hv h0 => by
    rw [vhF_ne (by decide) (by decide), svF_ne (by decide) (by decide)]
    have h1 := hP.2 v hv h0
    have hlt : siF B v n < 2 ^ n := siF_lt2
    have h2 := (da_tab hM' a b d w (show v < 3 by omega) (show siF B v n < 128 by omega) nv hv3 hv).2
    rw [best_congr hs.2.2] at h2
    exact h2 h1) ⟨fun s hs => by rw [if_neg (by omega)]; exact vhF_50 n s hs, fun x hx => by omega⟩ nv (Nat.le_refl nv)
  have e32 : bgF (tlO (vhF (svF (daF σ' n nv) n nv B nv) B n) n B nv) B n 32 = rB (daF σ' n nv) n nv B 32 := by
    rw [bgF_ne (by decide), tlO_ne (by decide) (by decide) (by decide) (by decide) (by decide), vhF_ne (by decide) (by decide), svF_32]
  unfold fdM
  rw [e32, hB]
  refine ⟨?_, ?_, ?_, ?_, fun i hi => ?_, ?_, fun v hv => ?_⟩
  · unfold rB; rw [zU_nj (by decide), zU_nj (by decide), zU_self]
  · unfold rB; rw [zU_nj (by decide), zU_self]
  · unfold rB; rw [zU_self]
  · unfold rB; rw [zU_nj (by decide), zU_nj (by decide), zU_nj (by decide), zU_self]
  · rw [bgF_ne (by decide), tlO_ne (by decide) (by decide) (by decide) (by decide) (by decide), vhF_49 n i hi]
  · obtain ⟨m1, m2⟩ := hall
    refine ⟨fun s hs => ?_, fun x hx => ?_⟩
    · rw [bgF_lo n s hs, m1 s hs]
      by_cases e : dg B s = 3
      · rw [if_pos e, if_neg (by omega)]
      · rw [if_neg e]
    · rw [bgF_ne (by decide), bgF_ne (by decide), bgF_ne (by decide)]
      exact m2 x hx
  · rw [bgF_ne (by decide), tlO_ne (by decide) (by decide) (by decide) (by decide) (by decide), vhF_ne (by decide) (by decide), svF_54 nv v hv]
