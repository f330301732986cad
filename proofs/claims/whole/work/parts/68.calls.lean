/-! EACH CALL, BOTH SIDES -/
theorem k_stop {σ : Nat → Nat → Int} (h : Rel σ) (l : Launch) (w : zW) (k : Int) (hk : rI k) : ∃ (z : Int) (σ1 σ2 : Nat → Nat → Int), zMi l w LL CC g_rp_stop rm_rp_stop [.ref (w.1 0), .int (zI k)] σ z σ1 ∧ zMi l w LL CC g_md_stop rm_md_stop [.ref (w.1 32), .int (zI k)] σ1 z σ2 ∧ Rel σ2 := by
  obtain ⟨n, nv, hT, hB, hF⟩ := h
  obtain ⟨hn, hn7, hv, hv3, -⟩ := id hT.1.1
  obtain ⟨mn, -, mv, -⟩ := id hT.1.2.1
  by_cases c : n < 7 ∧ 0 ≤ k ∧ k ≤ 100000
  · have a1 := c_rp_stop l w σ k hk n hn hn7
    rw [if_pos c, if_pos c] at a1
    have a2 := c_md_stop l w (zU (zU σ 2 n k) 1 0 ((n : Int) + 1)) k hk n (show (zU (zU σ 2 n k) 1 0 ((n : Int) + 1)) 32 0 = (n : Int) by first | done | skip; exact mn) hn7
    rw [if_pos c, if_pos c] at a2
    exact ⟨_, _, _, a1, a2, _, _, t_stop hT c.1 c.2, hB.congr (fun k hk => by (try unfold sApart); repeat (first | rfl | rw [zU_ne (by omega)])), hF.congr (fun k hk => by (try unfold sApart); repeat (first | rfl | rw [zU_ne (by omega)])) (fun j h0 h9 => by simp only [sApart, zU, Nat.reduceEqDiff, false_and, true_and, if_false, ↓reduceIte, reduceCtorEq, if_neg h0, if_neg h9])⟩
  · have a1 := c_rp_stop l w σ k hk n hn hn7
    rw [if_neg c, if_neg c] at a1
    have a2 := c_md_stop l w (σ) k hk n (show (σ) 32 0 = (n : Int) by first | done | skip; exact mn) hn7
    rw [if_neg c, if_neg c] at a2
    exact ⟨_, _, _, a1, a2, n, nv, hT, hB, hF⟩
theorem k_hours {σ : Nat → Nat → Int} (h : Rel σ) (l : Launch) (w : zW) (k : Int) (f : Int) (g : Int) (q : Int) (hk : rI k) (hf : rI f) (hg : rI g) (hq : rI q) : ∃ (z : Int) (σ1 σ2 : Nat → Nat → Int), zMi l w LL CC g_rp_hours rm_rp_hours [.ref (w.1 0), .int (zI k), .int (zI f), .int (zI g), .int (zI q)] σ z σ1 ∧ zMi l w LL CC g_md_hours rm_md_hours [.ref (w.1 32), .int (zI k), .int (zI f), .int (zI g), .int (zI q)] σ1 z σ2 ∧ Rel σ2 := by
  obtain ⟨n, nv, hT, hB, hF⟩ := h
  obtain ⟨hn, hn7, hv, hv3, -⟩ := id hT.1.1
  obtain ⟨mn, -, mv, -⟩ := id hT.1.2.1
  by_cases c : 0 ≤ k ∧ k < n ∧ 0 ≤ f ∧ f ≤ g ∧ g ≤ 86399 ∧ 0 ≤ q ∧ q ≤ 10000
  · have a1 := c_rp_hours l w σ k f g q hk hf hg hq n hn hn7
    rw [if_pos c] at a1
    have a2 := c_md_hours l w (zU (zU (zU σ 3 k.toNat f) 4 k.toNat g) 5 k.toNat q) k f g q hk hf hg hq n (show (zU (zU (zU σ 3 k.toNat f) 4 k.toNat g) 5 k.toNat q) 32 0 = (n : Int) by first | done | skip; exact mn) hn7
    rw [if_pos c] at a2
    exact ⟨_, _, _, a1, a2, _, _, t_hours hT (by omega) (by omega) (by omega), hB.congr (fun k hk => by (try unfold sApart); repeat (first | rfl | rw [zU_ne (by omega)])), hF.congr (fun k hk => by (try unfold sApart); repeat (first | rfl | rw [zU_ne (by omega)])) (fun j h0 h9 => by simp only [sApart, zU, Nat.reduceEqDiff, false_and, true_and, if_false, ↓reduceIte, reduceCtorEq, if_neg h0, if_neg h9])⟩
  · have a1 := c_rp_hours l w σ k f g q hk hf hg hq n hn hn7
    rw [if_neg c] at a1
    have a2 := c_md_hours l w (σ) k f g q hk hf hg hq n (show (σ) 32 0 = (n : Int) by first | done | skip; exact mn) hn7
    rw [if_neg c] at a2
    exact ⟨_, _, _, a1, a2, n, nv, hT, hB, hF⟩
theorem k_penalty {σ : Nat → Nat → Int} (h : Rel σ) (l : Launch) (w : zW) (k : Int) (c0 : Int) (hk : rI k) (hc : rL c0) : ∃ (z : Int) (σ1 σ2 : Nat → Nat → Int), zMi l w LL CC g_rp_penalty rm_rp_penalty [.ref (w.1 0), .int (zI k), .long (zL c0)] σ z σ1 ∧ zMi l w LL CC g_md_penalty rm_md_penalty [.ref (w.1 32), .int (zI k), .long (zL c0)] σ1 z σ2 ∧ Rel σ2 := by
  obtain ⟨n, nv, hT, hB, hF⟩ := h
  obtain ⟨hn, hn7, hv, hv3, -⟩ := id hT.1.1
  obtain ⟨mn, -, mv, -⟩ := id hT.1.2.1
  by_cases c : 0 ≤ k ∧ k < n ∧ 0 ≤ c0 ∧ c0 ≤ 1000000000
  · have a1 := c_rp_penalty l w σ k c0 hk hc n hn hn7
    rw [if_pos c] at a1
    have a2 := c_md_penalty l w (zU σ 6 k.toNat c0) k c0 hk hc n (show (zU σ 6 k.toNat c0) 32 0 = (n : Int) by first | done | skip; exact mn) hn7
    rw [if_pos c] at a2
    exact ⟨_, _, _, a1, a2, _, _, t_penalty hT (by omega) (by omega), hB.congr (fun k hk => by (try unfold sApart); repeat (first | rfl | rw [zU_ne (by omega)])), hF.congr (fun k hk => by (try unfold sApart); repeat (first | rfl | rw [zU_ne (by omega)])) (fun j h0 h9 => by simp only [sApart, zU, Nat.reduceEqDiff, false_and, true_and, if_false, ↓reduceIte, reduceCtorEq, if_neg h0, if_neg h9])⟩
  · have a1 := c_rp_penalty l w σ k c0 hk hc n hn hn7
    rw [if_neg c] at a1
    have a2 := c_md_penalty l w (σ) k c0 hk hc n (show (σ) 32 0 = (n : Int) by first | done | skip; exact mn) hn7
    rw [if_neg c] at a2
    exact ⟨_, _, _, a1, a2, n, nv, hT, hB, hF⟩
theorem k_vehicle {σ : Nat → Nat → Int} (h : Rel σ) (l : Launch) (w : zW) (a : Int) (b : Int) (d : Int) (r : Int) (ha : rI a) (hb : rI b) (hd : rI d) (hr : rI r) : ∃ (z : Int) (σ1 σ2 : Nat → Nat → Int), zMi l w LL CC g_rp_vehicle rm_rp_vehicle [.ref (w.1 0), .int (zI a), .int (zI b), .int (zI d), .int (zI r)] σ z σ1 ∧ zMi l w LL CC g_md_vehicle rm_md_vehicle [.ref (w.1 32), .int (zI a), .int (zI b), .int (zI d), .int (zI r)] σ1 z σ2 ∧ Rel σ2 := by
  obtain ⟨n, nv, hT, hB, hF⟩ := h
  obtain ⟨hn, hn7, hv, hv3, -⟩ := id hT.1.1
  obtain ⟨mn, -, mv, -⟩ := id hT.1.2.1
  by_cases c : nv < 3 ∧ 0 ≤ a ∧ a ≤ 1000000 ∧ 0 ≤ b ∧ b ≤ d ∧ d ≤ 86399 ∧ 0 ≤ r ∧ r ≤ 1000
  · have a1 := c_rp_vehicle l w σ a b d r ha hb hd hr nv hv hv3
    rw [if_pos c, if_pos c] at a1
    have a2 := c_md_vehicle l w (zU (zU (zU (zU (zU σ 12 nv a) 13 nv b) 14 nv d) 15 nv r) 1 1 ((nv : Int) + 1)) a b d r ha hb hd hr nv (show (zU (zU (zU (zU (zU σ 12 nv a) 13 nv b) 14 nv d) 15 nv r) 1 1 ((nv : Int) + 1)) 32 9 = (nv : Int) by first | done | skip; exact mv) hv3
    rw [if_pos c, if_pos c] at a2
    exact ⟨_, _, _, a1, a2, _, _, t_vehicle hT c.1 (by omega) (by omega) (by omega), hB.congr (fun k hk => by (try unfold sApart); repeat (first | rfl | rw [zU_ne (by omega)])), hF.congr (fun k hk => by (try unfold sApart); repeat (first | rfl | rw [zU_ne (by omega)])) (fun j h0 h9 => by simp only [sApart, zU, Nat.reduceEqDiff, false_and, true_and, if_false, ↓reduceIte, reduceCtorEq, if_neg h0, if_neg h9])⟩
  · have a1 := c_rp_vehicle l w σ a b d r ha hb hd hr nv hv hv3
    rw [if_neg c, if_neg c] at a1
    have a2 := c_md_vehicle l w (σ) a b d r ha hb hd hr nv (show (σ) 32 9 = (nv : Int) by first | done | skip; exact mv) hv3
    rw [if_neg c, if_neg c] at a2
    exact ⟨_, _, _, a1, a2, n, nv, hT, hB, hF⟩
theorem k_way {σ : Nat → Nat → Int} (h : Rel σ) (l : Launch) (w : zW) (a : Int) (b : Int) (q : Int) (ha : rI a) (hb : rI b) (hq : rI q) : ∃ (z : Int) (σ1 σ2 : Nat → Nat → Int), zMi l w LL CC g_rp_way rm_rp_way [.ref (w.1 0), .int (zI a), .int (zI b), .int (zI q)] σ z σ1 ∧ zMi l w LL CC g_md_way rm_md_way [.ref (w.1 32), .int (zI a), .int (zI b), .int (zI q)] σ1 z σ2 ∧ Rel σ2 := by
  obtain ⟨n, nv, hT, hB, hF⟩ := h
  obtain ⟨hn, hn7, hv, hv3, -⟩ := id hT.1.1
  obtain ⟨mn, -, mv, -⟩ := id hT.1.2.1
  by_cases c : 0 ≤ a ∧ a ≤ 7 ∧ 0 ≤ b ∧ b ≤ 7 ∧ a ≠ b ∧ 0 ≤ q ∧ q ≤ 50000
  · have a1 := c_rp_way l w σ a b q ha hb hq
    rw [if_pos c] at a1
    have a2 := c_md_way l w (zU σ 16 (a.toNat * 8 + b.toNat) q) a b q ha hb hq
    rw [if_pos c] at a2
    exact ⟨_, _, _, a1, a2, _, _, (by rw [Nat.mul_comm a.toNat 8]; exact t_way hT (by omega)), hB.congr (fun k hk => by (try unfold sApart); repeat (first | rfl | rw [zU_ne (by omega)])), hF.congr (fun k hk => by (try unfold sApart); repeat (first | rfl | rw [zU_ne (by omega)])) (fun j h0 h9 => by simp only [sApart, zU, Nat.reduceEqDiff, false_and, true_and, if_false, ↓reduceIte, reduceCtorEq, if_neg h0, if_neg h9])⟩
  · have a1 := c_rp_way l w σ a b q ha hb hq
    rw [if_neg c] at a1
    have a2 := c_md_way l w (σ) a b q ha hb hq
    rw [if_neg c] at a2
    exact ⟨_, _, _, a1, a2, n, nv, hT, hB, hF⟩
theorem k_fixed {σ : Nat → Nat → Int} (h : Rel σ) (l : Launch) (w : zW) (k : Int) (v : Int) (hk : rI k) (hq : rI v) : ∃ (z : Int) (σ1 σ2 : Nat → Nat → Int), zMi l w LL CC g_rp_fixed rm_rp_fixed [.ref (w.1 0), .int (zI k), .int (zI v)] σ z σ1 ∧ zMi l w LL CC g_md_fixed rm_md_fixed [.ref (w.1 32), .int (zI k), .int (zI v)] σ1 z σ2 ∧ Rel σ2 := by
  obtain ⟨n, nv, hT, hB, hF⟩ := h
  obtain ⟨hn, hn7, hv, hv3, -⟩ := id hT.1.1
  obtain ⟨mn, -, mv, -⟩ := id hT.1.2.1
  by_cases c : 0 ≤ k ∧ k < n ∧ -1 ≤ v ∧ v < nv
  · have a1 := c_rp_fixed l w σ k v hk hq n hn hn7 nv hv hv3
    rw [if_pos c] at a1
    have a2 := c_md_fixed l w (zU σ 7 k.toNat v) k v hk hq n (show (zU σ 7 k.toNat v) 32 0 = (n : Int) by first | done | skip; exact mn) hn7 nv (show (zU σ 7 k.toNat v) 32 9 = (nv : Int) by first | done | skip; exact mv) hv3
    rw [if_pos c] at a2
    exact ⟨_, _, _, a1, a2, _, _, t_fixed hT (by omega) (by omega), hB.congr (fun k hk => by (try unfold sApart); repeat (first | rfl | rw [zU_ne (by omega)])), hF.congr (fun k hk => by (try unfold sApart); repeat (first | rfl | rw [zU_ne (by omega)])) (fun j h0 h9 => by simp only [sApart, zU, Nat.reduceEqDiff, false_and, true_and, if_false, ↓reduceIte, reduceCtorEq, if_neg h0, if_neg h9])⟩
  · have a1 := c_rp_fixed l w σ k v hk hq n hn hn7 nv hv hv3
    rw [if_neg c] at a1
    have a2 := c_md_fixed l w (σ) k v hk hq n (show (σ) 32 0 = (n : Int) by first | done | skip; exact mn) hn7 nv (show (σ) 32 9 = (nv : Int) by first | done | skip; exact mv) hv3
    rw [if_neg c] at a2
    exact ⟨_, _, _, a1, a2, n, nv, hT, hB, hF⟩
theorem k_apart {σ : Nat → Nat → Int} (h : Rel σ) (l : Launch) (w : zW) (a : Int) (b : Int) (t : Int) (ha : rI a) (hb : rI b) (ht : t = 0 ∨ t = 1) : ∃ (z : Int) (σ1 σ2 : Nat → Nat → Int), zMi l w LL CC g_rp_apart rm_rp_apart [.ref (w.1 0), .int (zI a), .int (zI b), .int (zI t)] σ z σ1 ∧ zMi l w LL CC g_md_apart rm_md_apart [.ref (w.1 32), .int (zI a), .int (zI b), .int (zI t)] σ1 z σ2 ∧ Rel σ2 := by
  obtain ⟨n, nv, hT, hB, hF⟩ := h
  obtain ⟨hn, hn7, hv, hv3, -⟩ := id hT.1.1
  obtain ⟨mn, -, mv, -⟩ := id hT.1.2.1
  by_cases c : 0 ≤ a ∧ a < n ∧ 0 ≤ b ∧ b < n ∧ a ≠ b
  · have a1 := c_rp_apart l w σ a b t ha hb ht hT.1.1.2.2.2.2.2.2.2.2.2.2.1 n hn hn7
    rw [if_pos c] at a1
    have a2 := c_md_apart l w (sApart σ a.toNat b.toNat t) a b t ha hb ht n (show (sApart σ a.toNat b.toNat t) 32 0 = (n : Int) by first | done | skip; exact mn) hn7
    rw [if_pos c] at a2
    exact ⟨_, _, _, a1, a2, _, _, t_apart hT (by omega) (by omega) (by omega) ht, hB.congr (fun k hk => by (try unfold sApart); repeat (first | rfl | rw [zU_ne (by omega)])), hF.congr (fun k hk => by (try unfold sApart); repeat (first | rfl | rw [zU_ne (by omega)])) (fun j h0 h9 => by simp only [sApart, zU, Nat.reduceEqDiff, false_and, true_and, if_false, ↓reduceIte, reduceCtorEq, if_neg h0, if_neg h9])⟩
  · have a1 := c_rp_apart l w σ a b t ha hb ht hT.1.1.2.2.2.2.2.2.2.2.2.2.1 n hn hn7
    rw [if_neg c] at a1
    have a2 := c_md_apart l w (σ) a b t ha hb ht n (show (σ) 32 0 = (n : Int) by first | done | skip; exact mn) hn7
    rw [if_neg c] at a2
    exact ⟨_, _, _, a1, a2, n, nv, hT, hB, hF⟩
theorem k_before {σ : Nat → Nat → Int} (h : Rel σ) (l : Launch) (w : zW) (a : Int) (b : Int) (ha : rI a) (hb : rI b) : ∃ (z : Int) (σ1 σ2 : Nat → Nat → Int), zMi l w LL CC g_rp_before rm_rp_before [.ref (w.1 0), .int (zI a), .int (zI b)] σ z σ1 ∧ zMi l w LL CC g_md_before rm_md_before [.ref (w.1 32), .int (zI a), .int (zI b)] σ1 z σ2 ∧ Rel σ2 := by
  obtain ⟨n, nv, hT, hB, hF⟩ := h
  obtain ⟨hn, hn7, hv, hv3, -⟩ := id hT.1.1
  obtain ⟨mn, -, mv, -⟩ := id hT.1.2.1
  obtain ⟨-, -, -, -, -, -, -, -, -, -, -, h9, h10, h11, -⟩ := id hT.1.1
  have h40 := hT.1.2.1.2.2.2.2.2.2.2.2.2.2.2.1
  have a1 := c_rp_before l w σ a b ha hb n hn hn7 h9 h10 h11
  have ldc : ∀ τ : Nat → Nat → Int, τ 40 = σ 40 → ∀ (S t : Nat), ldT τ n S t = ldT σ n S t := by
    intro τ e S t
    have y : ∀ x S k, ldY τ x S k = ldY σ x S k := by
      intro x S k
      induction k with
      | zero => rfl
      | succ k ih => rw [ldY, ldY, ih, e]
    have x : ∀ S k, ldX τ n S k = ldX σ n S k := by
      intro S k
      induction k with
      | zero => rfl
      | succ k ih => rw [ldX, ldX, ih, y]
    induction t with
    | zero => rfl
    | succ t ih => rw [ldT, ldT, ih, x]
  have hcc : (0 ≤ a ∧ a < n ∧ 0 ≤ b ∧ b < n ∧ a ≠ b ∧ ¬ (σ 10 a.toNat).toNat.testBit b.toNat = true ∧ ¬ (σ 11 b.toNat).toNat.testBit a.toNat = true) ↔ (0 ≤ a ∧ a < n ∧ 0 ≤ b ∧ b < n ∧ a ≠ b ∧ σ 40 (7 * a.toNat + b.toNat) = 0 ∧ ¬ (ldT σ n (2 ^ b.toNat) n).testBit a.toNat = true) := by
    have main : 0 ≤ a → a < n → 0 ≤ b → b < n → a ≠ b → ((¬ (σ 10 a.toNat).toNat.testBit b.toNat = true ∧ ¬ (σ 11 b.toNat).toNat.testBit a.toNat = true) ↔ (σ 40 (7 * a.toNat + b.toNat) = 0 ∧ ¬ (ldT σ n (2 ^ b.toNat) n).testBit a.toNat = true)) := by
      intro x1 x2 x3 x4 x5
      have y1 := hT.1.2.2.2.2.2.2.1 a.toNat b.toNat (by omega) (by omega)
      have y2 := ld_iff (a := a.toNat) (b := b.toNat) hn7 hT.2.2.2 (by omega) (by omega)
      rw [y2, y1]
      unfold Rc
      have y3 : ¬ a.toNat = b.toNat := by omega
      constructor
      · rintro ⟨z1, z2⟩
        exact ⟨Decidable.not_not.mp z1, fun z => z.elim y3 z2⟩
      · rintro ⟨z1, z2⟩
        exact ⟨fun z => z z1, fun z => z2 (Or.inr z)⟩
    constructor
    · rintro ⟨x1, x2, x3, x4, x5, x6⟩
      exact ⟨x1, x2, x3, x4, x5, (main x1 x2 x3 x4 x5).mp x6⟩
    · rintro ⟨x1, x2, x3, x4, x5, x6⟩
      exact ⟨x1, x2, x3, x4, x5, (main x1 x2 x3 x4 x5).mpr x6⟩
  rw [zB_iff hcc] at a1
  by_cases c : 0 ≤ a ∧ a < n ∧ 0 ≤ b ∧ b < n ∧ a ≠ b ∧ ¬ (σ 10 a.toNat).toNat.testBit b.toNat = true ∧ ¬ (σ 11 b.toNat).toNat.testBit a.toNat = true
  · rw [if_pos c] at a1
    have ek : ∀ k, k ≠ 9 → k ≠ 10 → k ≠ 11 → sBefore σ n a.toNat b.toNat k = σ k := fun k a1 a2 a3 => by
      unfold sBefore; rw [rcF_ne a3]; unfold sBef0; rw [zU_ne a1, zU_ne a2]
    have e40 := ek 40 (by decide) (by decide) (by decide)
    have a2 := c_md_before l w (sBefore σ n a.toNat b.toNat) a b ha hb n (by rw [ek 32 (by decide) (by decide) (by decide)]; exact mn) hn7 (by intro i hi; rw [e40]; exact h40 i hi)
    rw [e40, ldc _ e40, if_pos (hcc.mp c)] at a2
    exact ⟨_, _, _, a1, a2, n, nv, t_before hT (by omega) (by omega), hB.congr (fun k hk => by rw [zU_ne (by omega), ek k (by omega) (by omega) (by omega)]), hF.congr (fun k hk => by rw [zU_ne (by omega), ek k (by omega) (by omega) (by omega)]) (fun j _ _ => by rw [zU_ne (by decide), ek 32 (by decide) (by decide) (by decide)])⟩
  · rw [if_neg c] at a1
    have a2 := c_md_before l w σ a b ha hb n mn hn7 h40
    rw [if_neg (fun z => c (hcc.mpr z))] at a2
    exact ⟨_, _, _, a1, a2, n, nv, hT, hB, hF⟩
theorem k_cost {σ : Nat → Nat → Int} (h : Rel σ) (l : Launch) (w : zW)   : ∃ (z : Int) (σ1 σ2 : Nat → Nat → Int), zMl l w LL CC g_rp_cost rm_rp_cost [.ref (w.1 0)] σ z σ1 ∧ zMl l w LL CC g_md_cost rm_md_cost [.ref (w.1 32)] σ1 z σ2 ∧ Rel σ2 := by
  obtain ⟨n, nv, hT, hB, hF⟩ := h
  obtain ⟨hn, hn7, hv, hv3, -⟩ := id hT.1.1
  obtain ⟨mn, -, mv, -⟩ := id hT.1.2.1
  obtain ⟨fn, fv, f1, f2, f3, f4, f5, f6, f7, f8, f9, f10, f11, f12, f13⟩ := id hF
  have a1 := c_rp_cost l w σ
  have a2 := c_md_cost l w σ f7
  rw [← f8] at a2
  exact ⟨_, _, _, a1, a2, n, nv, hT, hB, hF⟩
theorem k_vehicleOf {σ : Nat → Nat → Int} (h : Rel σ) (l : Launch) (w : zW) (k : Int) (hk : rI k) : ∃ (z : Int) (σ1 σ2 : Nat → Nat → Int), zMi l w LL CC g_rp_vehicleOf rm_rp_vehicleOf [.ref (w.1 0), .int (zI k)] σ z σ1 ∧ zMi l w LL CC g_md_vehicleOf rm_md_vehicleOf [.ref (w.1 32), .int (zI k)] σ1 z σ2 ∧ Rel σ2 := by
  obtain ⟨n, nv, hT, hB, hF⟩ := h
  obtain ⟨hn, hn7, hv, hv3, -⟩ := id hT.1.1
  obtain ⟨mn, -, mv, -⟩ := id hT.1.2.1
  obtain ⟨fn, fv, f1, f2, f3, f4, f5, f6, f7, f8, f9, f10, f11, f12, f13⟩ := id hF
  have a1 := c_rp_vehicleOf l w σ k hk fn f3 f1
  have a2 := c_md_vehicleOf l w σ k hk fn f5 f1
  by_cases c : 0 ≤ k ∧ k < fn
  · rw [if_pos c] at a1 a2
    rw [← (f9 k.toNat (by omega)).1] at a2
    exact ⟨_, _, _, a1, a2, n, nv, hT, hB, hF⟩
  · rw [if_neg c] at a1 a2
    exact ⟨_, _, _, a1, a2, n, nv, hT, hB, hF⟩
theorem k_begun {σ : Nat → Nat → Int} (h : Rel σ) (l : Launch) (w : zW) (k : Int) (hk : rI k) : ∃ (z : Int) (σ1 σ2 : Nat → Nat → Int), zMi l w LL CC g_rp_begun rm_rp_begun [.ref (w.1 0), .int (zI k)] σ z σ1 ∧ zMi l w LL CC g_md_begun rm_md_begun [.ref (w.1 32), .int (zI k)] σ1 z σ2 ∧ Rel σ2 := by
  obtain ⟨n, nv, hT, hB, hF⟩ := h
  obtain ⟨hn, hn7, hv, hv3, -⟩ := id hT.1.1
  obtain ⟨mn, -, mv, -⟩ := id hT.1.2.1
  obtain ⟨fn, fv, f1, f2, f3, f4, f5, f6, f7, f8, f9, f10, f11, f12, f13⟩ := id hF
  have a1 := c_rp_begun l w σ k hk fn f3 f1
  have a2 := c_md_begun l w σ k hk fn f5 f1
  by_cases c : 0 ≤ k ∧ k < fn
  · rw [if_pos c] at a1 a2
    rw [← (f9 k.toNat (by omega)).2] at a2
    exact ⟨_, _, _, a1, a2, n, nv, hT, hB, hF⟩
  · rw [if_neg c] at a1 a2
    exact ⟨_, _, _, a1, a2, n, nv, hT, hB, hF⟩
theorem k_back {σ : Nat → Nat → Int} (h : Rel σ) (l : Launch) (w : zW) (k : Int) (hk : rI k) : ∃ (z : Int) (σ1 σ2 : Nat → Nat → Int), zMi l w LL CC g_rp_back rm_rp_back [.ref (w.1 0), .int (zI k)] σ z σ1 ∧ zMi l w LL CC g_md_back rm_md_back [.ref (w.1 32), .int (zI k)] σ1 z σ2 ∧ Rel σ2 := by
  obtain ⟨n, nv, hT, hB, hF⟩ := h
  obtain ⟨hn, hn7, hv, hv3, -⟩ := id hT.1.1
  obtain ⟨mn, -, mv, -⟩ := id hT.1.2.1
  obtain ⟨fn, fv, f1, f2, f3, f4, f5, f6, f7, f8, f9, f10, f11, f12, f13⟩ := id hF
  have a1 := c_rp_back l w σ k hk fv f4 f2
  have a2 := c_md_back l w σ k hk fv f6 f2
  by_cases c : 0 ≤ k ∧ k < fv
  · rw [if_pos c] at a1 a2
    rw [← (f10 k.toNat (by omega)).2.1] at a2
    exact ⟨_, _, _, a1, a2, n, nv, hT, hB, hF⟩
  · rw [if_neg c] at a1 a2
    exact ⟨_, _, _, a1, a2, n, nv, hT, hB, hF⟩
theorem k_saved {σ : Nat → Nat → Int} (h : Rel σ) (l : Launch) (w : zW) (k : Int) (hk : rI k) : ∃ (z : Int) (σ1 σ2 : Nat → Nat → Int), zMl l w LL CC g_rp_saved rm_rp_saved [.ref (w.1 0), .int (zI k)] σ z σ1 ∧ zMl l w LL CC g_md_saved rm_md_saved [.ref (w.1 32), .int (zI k)] σ1 z σ2 ∧ Rel σ2 := by
  obtain ⟨n, nv, hT, hB, hF⟩ := h
  obtain ⟨hn, hn7, hv, hv3, -⟩ := id hT.1.1
  obtain ⟨mn, -, mv, -⟩ := id hT.1.2.1
  obtain ⟨fn, fv, f1, f2, f3, f4, f5, f6, f7, f8, f9, f10, f11, f12, f13⟩ := id hF
  have a1 := c_rp_saved l w σ k hk fv f4 f2
  have a2 := c_md_saved l w σ k hk fv f6 f2
  by_cases c : 0 ≤ k ∧ k < fv
  · rw [if_pos c] at a1 a2
    rw [← (f10 k.toNat (by omega)).2.2.1] at a2
    exact ⟨_, _, _, a1, a2, n, nv, hT, hB, hF⟩
  · rw [if_neg c] at a1 a2
    exact ⟨_, _, _, a1, a2, n, nv, hT, hB, hF⟩
theorem k_at {σ : Nat → Nat → Int} (h : Rel σ) (l : Launch) (w : zW) (k : Int) (j : Int) (hk : rI k) (hj : rI j) : ∃ (z : Int) (σ1 σ2 : Nat → Nat → Int), zMi l w LL CC g_rp_at rm_rp_at [.ref (w.1 0), .int (zI k), .int (zI j)] σ z σ1 ∧ zMi l w LL CC g_md_at rm_md_at [.ref (w.1 32), .int (zI k), .int (zI j)] σ1 z σ2 ∧ Rel σ2 := by
  obtain ⟨n, nv, hT, hB, hF⟩ := h
  obtain ⟨hn, hn7, hv, hv3, -⟩ := id hT.1.1
  obtain ⟨mn, -, mv, -⟩ := id hT.1.2.1
  obtain ⟨fn, fv, f1, f2, f3, f4, f5, f6, f7, f8, f9, f10, f11, f12, f13⟩ := id hF
  have a1 := c_rp_at l w σ k j hk hj f11 fv f4 f2
  have a2 := c_md_at l w σ k j hk hj f13 f12 fv f6 f2
  by_cases c : 0 ≤ k ∧ k < fv ∧ 0 ≤ j ∧ j < σ 29 k.toNat
  · obtain ⟨g1, g2, g3, g4⟩ := f10 k.toNat (by omega)
    rw [if_pos c] at a1
    rw [if_pos (by omega), and_7] at a2
    have g5 := g4 j.toNat (by omega)
    unfold d8 at g5
    rw [g5] at a1
    exact ⟨_, _, _, a1, a2, n, nv, hT, hB, hF⟩
  · rw [if_neg c] at a1
    rw [if_neg (by
      intro z
      obtain ⟨g1, -⟩ := f10 k.toNat (by omega)
      omega)] at a2
    exact ⟨_, _, _, a1, a2, n, nv, hT, hB, hF⟩
