/-! THE ROWS THAT THE SEARCH VISITS: all that may be, each before the later ones -/
def okM (σ : Nat → Nat → Int) (n v : Nat) (q : List Nat) : Prop := (∀ x ∈ q, x < n ∧ (σ 38 x = -1 ∨ σ 38 x = (v : Int))) ∧ q.Pairwise (fun a b => a ≠ b ∧ σ 39 (7 * a + b) = 0 ∧ σ 40 (7 * b + a) = 0)
theorem pm_iff {σ : Nat → Nat → Int} {v x : Nat} {t : List Nat} : pm σ v t x = true ↔ (σ 38 x = -1 ∨ σ 38 x = (v : Int)) ∧ ∀ y ∈ t, y ≠ x ∧ σ 39 (7 * y + x) = 0 ∧ σ 40 (7 * x + y) = 0 := by
  unfold pm
  simp only [Bool.and_eq_true, decide_eq_true_eq, List.all_eq_true]
theorem okM_snoc {σ : Nat → Nat → Int} {n v x : Nat} {t : List Nat} (h : okM σ n v t) (hx : x < n) (hp : pm σ v t x = true) : okM σ n v (t ++ [x]) := by
  rw [pm_iff] at hp
  refine ⟨fun y hy => ?_, ?_⟩
  · rcases List.mem_append.mp hy with h1 | h1
    · exact h.1 y h1
    · rw [List.mem_singleton.mp h1]; exact ⟨hx, hp.1⟩
  · rw [List.pairwise_append]
    refine ⟨h.2, List.pairwise_singleton _ _, fun a ha b hb => ?_⟩
    rw [List.mem_singleton.mp hb]
    exact hp.2 a ha
theorem okM_pm {σ : Nat → Nat → Int} {n v x : Nat} {t r : List Nat} (h : okM σ n v (t ++ x :: r)) : x < n ∧ pm σ v t x = true := by
  have h1 := h.1 x (by simp)
  refine ⟨h1.1, pm_iff.mpr ⟨h1.2, fun y hy => ?_⟩⟩
  exact (List.pairwise_append.mp h.2).2.2 y hy x List.mem_cons_self
theorem okM_vld {σ : Nat → Nat → Int} {n v : Nat} {q : List Nat} (h : okM σ n v q) : vld n (fun _ => 0) q := by
  rw [vld_iff]
  exact ⟨fun s hs => (h.1 s hs).1, h.2.imp (fun hab => hab.1), h.2.imp (fun _ => by simp)⟩
theorem okM_len {σ : Nat → Nat → Int} {n v : Nat} {q : List Nat} (h : okM σ n v q) : q.length = cnt (fun i => (lset q).testBit i) n ∧ q.length ≤ n := by
  have e := vld_len (okM_vld h)
  exact ⟨e, by rw [e]; exact cnt_le _ n⟩
theorem okM_pre {σ : Nat → Nat → Int} {n v : Nat} {t r : List Nat} (h : okM σ n v (t ++ r)) : okM σ n v t :=
  ⟨fun x hx => h.1 x (List.mem_append_left _ hx), (List.pairwise_append.mp h.2).1⟩
theorem En_sound {σ : Nat → Nat → Int} {n v : Nat} : ∀ (f : Nat) (t : List Nat) (c : Nat), c ≤ n → okM σ n v t → ∀ q ∈ En σ n v f t c, okM σ n v q ∧ ∃ y r, q = t ++ y :: r ∧ n - c ≤ y := by
  intro f
  induction f with
  | zero => intro t c _ _ q hq; rw [En] at hq; cases hq
  | succ f ihf =>
    intro t c
    induction c with
    | zero => intro _ _ q hq; rw [En] at hq; cases hq
    | succ c ihc =>
      intro hc ht q hq
      rw [En] at hq
      have hx : n - (c + 1) < n := by omega
      have low : q ∈ En σ n v (f + 1) t c → okM σ n v q ∧ ∃ y r, q = t ++ y :: r ∧ n - (c + 1) ≤ y := fun h => by
        obtain ⟨a, y, r, e, hy⟩ := ihc (by omega) ht q h
        exact ⟨a, y, r, e, by omega⟩
      split at hq
      · rename_i hp
        have ht2 := okM_snoc ht hx hp
        rcases List.mem_cons.mp hq with h | h
        · subst h; exact ⟨ht2, _, [], rfl, Nat.le_refl _⟩
        · rcases List.mem_append.mp h with h | h
          · obtain ⟨a, y, r, e, -⟩ := ihf _ n (Nat.le_refl n) ht2 q h
            exact ⟨a, n - (c + 1), y :: r, by rw [e, List.append_assoc]; rfl, Nat.le_refl _⟩
          · exact low h
      · exact low hq
theorem En_all {σ : Nat → Nat → Int} {n v : Nat} : ∀ (f : Nat) (t : List Nat) (c y : Nat) (r : List Nat), c ≤ n → okM σ n v (t ++ y :: r) → n - c ≤ y → n + 1 ≤ t.length + f → (t ++ y :: r) ∈ En σ n v f t c := by
  intro f
  induction f with
  | zero =>
    intro t c y r hc ho hy hf
    have := (okM_len ho).2
    simp at this
    omega
  | succ f ihf =>
    intro t c
    induction c with
    | zero =>
      intro y r hc ho hy hf
      have := (okM_pm ho).1
      omega
    | succ c ihc =>
      intro y r hc ho hy hf
      rw [En]
      by_cases e : y = n - (c + 1)
      · subst e
        rw [if_pos (okM_pm ho).2]
        cases r with
        | nil => exact List.mem_cons_self
        | cons z r =>
          refine List.mem_cons_of_mem _ (List.mem_append_left _ ?_)
          have e2 : t ++ (n - (c + 1)) :: z :: r = (t ++ [n - (c + 1)]) ++ z :: r := by rw [List.append_assoc]; rfl
          rw [e2] at ho ⊢
          exact ihf _ n z r (Nat.le_refl n) ho (by omega) (by rw [List.length_append, List.length_singleton]; omega)
      · have h := ihc y r (by omega) ho (by omega) hf
        split
        · exact List.mem_cons_of_mem _ (List.mem_append_right _ h)
        · exact h
theorem lex_app : ∀ (t u w : List Nat), lexLe u w → lexLe (t ++ u) (t ++ w)
  | [], _, _, h => h
  | a :: t, u, w, h => Or.inr ⟨rfl, lex_app t u w h⟩
theorem En_sorted {σ : Nat → Nat → Int} {n v : Nat} : ∀ (f : Nat) (t : List Nat) (c : Nat), c ≤ n → okM σ n v t → (En σ n v f t c).Pairwise (fun a b => a.length = b.length → lexLe a b) := by
  intro f
  induction f with
  | zero => intro t c _ _; rw [En]; exact List.Pairwise.nil
  | succ f ihf =>
    intro t c
    induction c with
    | zero => intro _ _; rw [En]; exact List.Pairwise.nil
    | succ c ihc =>
      intro hc ht
      rw [En]
      have hx : n - (c + 1) < n := by omega
      have low := ihc (by omega) ht
      split
      · rename_i hp
        have ht2 := okM_snoc ht hx hp
        have up : ∀ a b r, b ∈ En σ n v (f + 1) t c → a = t ++ (n - (c + 1)) :: r → lexLe a b := by
          intro a b r hb ha
          obtain ⟨-, y, r', e, hy⟩ := En_sound (f + 1) t c (by omega) ht b hb
          rw [ha, e]
          exact lex_app t _ _ (Or.inl (by omega))
        rw [List.pairwise_cons, List.pairwise_append]
        refine ⟨fun b hb => ?_, ihf _ n (Nat.le_refl n) ht2, low, fun a ha b hb _ => ?_⟩
        · rcases List.mem_append.mp hb with h | h
          · obtain ⟨-, y, r', e, -⟩ := En_sound f _ n (Nat.le_refl n) ht2 b h
            intro hl
            rw [e] at hl
            simp at hl
          · exact fun _ => up _ b [] h rfl
        · obtain ⟨-, y, r', e, -⟩ := En_sound f _ n (Nat.le_refl n) ht2 a ha
          exact up a b (y :: r') hb (by rw [e, List.append_assoc]; rfl)
      · exact low
/-- the fold: the least, and of these the first -/
def gdM (σ : Nat → Nat → Int) (v S : Nat) (q : List Nat) : Prop := lset q = S ∧ 0 ≤ vlM σ v q
def fiM (σ : Nat → Nat → Int) (v S : Nat) (P : List (List Nat)) (a : Int × List Nat) : Prop := (a.1 = -1 ∧ ∀ q ∈ P, ¬ gdM σ v S q) ∨ (a.1 = vlM σ v a.2 ∧ a.2 ∈ P ∧ gdM σ v S a.2 ∧ ∀ q ∈ P, gdM σ v S q → vlM σ v a.2 < vlM σ v q ∨ (vlM σ v a.2 = vlM σ v q ∧ lexLe a.2 q))
theorem lex_refl : ∀ q : List Nat, lexLe q q
  | [] => trivial
  | _ :: q => Or.inr ⟨rfl, lex_refl q⟩
theorem fold_fi {σ : Nat → Nat → Int} {v S : Nat} : ∀ (L P : List (List Nat)) (a : Int × List Nat), fiM σ v S P a → (P ++ L).Pairwise (fun a b => a.length = b.length → lexLe a b) → (∀ p ∈ P ++ L, ∀ q ∈ P ++ L, lset p = lset q → p.length = q.length) → fiM σ v S (P ++ L) (L.foldl (kq σ v S) a)
  | [], P, a, h, _, _ => by rw [List.append_nil]; exact h
  | q :: L, P, a, h, hs, hl => by
    have e : P ++ q :: L = (P ++ [q]) ++ L := by rw [List.append_assoc]; rfl
    rw [e] at hs hl ⊢
    rw [List.foldl_cons]
    refine fold_fi L (P ++ [q]) _ ?_ hs hl
    unfold kq
    have lo : ∀ x ∈ P, x.length = q.length → lexLe x q := fun x hx => (List.pairwise_append.mp (List.pairwise_append.mp hs).1).2.2 x hx q List.mem_cons_self
    by_cases hg : gdM σ v S q
    · rcases h with ⟨h1, h2⟩ | ⟨h1, h2, h3, h4⟩
      · rw [if_pos ⟨hg.1, hg.2, Or.inl (by omega)⟩]
        refine Or.inr ⟨rfl, by simp, hg, fun x hx hgx => ?_⟩
        rcases List.mem_append.mp hx with hx | hx
        · exact absurd hgx (h2 x hx)
        · rw [List.mem_singleton.mp hx]; exact Or.inr ⟨rfl, lex_refl q⟩
      · have h30 := h3.2
        by_cases hlt : vlM σ v q < a.1
        · rw [if_pos ⟨hg.1, hg.2, Or.inr hlt⟩]
          refine Or.inr ⟨rfl, by simp, hg, fun x hx hgx => ?_⟩
          rcases List.mem_append.mp hx with hx | hx
          · have := h4 x hx hgx
            left
            rcases this with t | t
            · show vlM σ v q < _; omega
            · show vlM σ v q < _; omega
          · rw [List.mem_singleton.mp hx]; exact Or.inr ⟨rfl, lex_refl q⟩
        · rw [if_neg (fun z => by rcases z.2.2 with z | z <;> omega)]
          refine Or.inr ⟨h1, by simp [h2], h3, fun x hx hgx => ?_⟩
          rcases List.mem_append.mp hx with hx | hx
          · exact h4 x hx hgx
          · rw [List.mem_singleton.mp hx]
            by_cases he : vlM σ v a.2 = vlM σ v q
            · exact Or.inr ⟨he, lo a.2 h2 (hl a.2 (by simp [h2]) q (by simp) (h3.1.trans hg.1.symm))⟩
            · left; omega
    · rw [if_neg (fun z => hg ⟨z.1, z.2.1⟩)]
      rcases h with ⟨h1, h2⟩ | ⟨h1, h2, h3, h4⟩
      · refine Or.inl ⟨h1, fun x hx => ?_⟩
        rcases List.mem_append.mp hx with hx | hx
        · exact h2 x hx
        · rw [List.mem_singleton.mp hx]; exact hg
      · refine Or.inr ⟨h1, by simp [h2], h3, fun x hx hgx => ?_⟩
        rcases List.mem_append.mp hx with hx | hx
        · exact h4 x hx hgx
        · rw [List.mem_singleton.mp hx] at hgx; exact absurd hgx hg
/-- the search, from the yard -/
theorem En_fi {σ : Nat → Nat → Int} {n v S : Nat} : fiM σ v S (En σ n v (n + 1) [] n) ((En σ n v (n + 1) [] n).foldl (kq σ v S) (-1, [])) := by
  have h0 : okM σ n v [] := ⟨fun x hx => absurd hx List.not_mem_nil, List.Pairwise.nil⟩
  have h := fold_fi (σ := σ) (v := v) (S := S) (En σ n v (n + 1) [] n) [] (-1, []) (Or.inl ⟨rfl, fun q hq => absurd hq List.not_mem_nil⟩) (by rw [List.nil_append]; exact En_sorted (n + 1) [] n (Nat.le_refl n) h0) (by
    rw [List.nil_append]
    intro p hp q hq e
    rw [(okM_len (En_sound (n + 1) [] n (Nat.le_refl n) h0 p hp).1).1, (okM_len (En_sound (n + 1) [] n (Nat.le_refl n) h0 q hq).1).1, e])
  rw [List.nil_append] at h
  exact h
theorem En_iff {σ : Nat → Nat → Int} {n v : Nat} {q : List Nat} : q ∈ En σ n v (n + 1) [] n ↔ okM σ n v q ∧ q ≠ [] := by
  have h0 : okM σ n v [] := ⟨fun x hx => absurd hx List.not_mem_nil, List.Pairwise.nil⟩
  constructor
  · intro h
    obtain ⟨a, y, r, e, -⟩ := En_sound (n + 1) [] n (Nat.le_refl n) h0 q h
    exact ⟨a, by rw [e]; simp⟩
  · rintro ⟨a, b⟩
    cases q with
    | nil => exact absurd rfl b
    | cons y r => exact En_all (n + 1) [] n y r (Nat.le_refl n) a (by omega) (by simp)
