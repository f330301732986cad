section
-- ===== PART A: goes FIRST, ahead of the names: the tables' words, and 'selects' of the private methods out of them =====
/-- a private method of a class that the tables say can be made, by its rows of tables_1 -/
def lw_okq (q : MethodName × Nat) : Prop := (q.1.cls ≠ "java/lang/invoke/MethodHandle" ∧ q.1.cls ≠ "java/lang/invoke/VarHandle") ∧ Cond.instantiable q.1.cls q.2 ∈ tables_1 ∧ Cond.privateMethod q.1 ∈ tables_1 ∧ Cond.instanceMethod q.1 ∈ tables_1
theorem lw_p0 : lw_okq (⟨"RoundPlans$Rounds", "mayHave", "(II)Z"⟩, 4) := ⟨⟨by decide +kernel, by decide +kernel⟩, List.mem_of_getElem? (i := 114) (by decide +kernel), List.mem_of_getElem? (i := 301) (by decide +kernel), List.mem_of_getElem? (i := 302) (by decide +kernel)⟩
theorem lw_p1 : lw_okq (⟨"RoundPlans$Rounds", "findBack", "(II)I"⟩, 4) := ⟨⟨by decide +kernel, by decide +kernel⟩, List.mem_of_getElem? (i := 114) (by decide +kernel), List.mem_of_getElem? (i := 306) (by decide +kernel), List.mem_of_getElem? (i := 307) (by decide +kernel)⟩
theorem lw_p2 : lw_okq (⟨"RoundPlans$Rounds", "findReady", "(III)I"⟩, 4) := ⟨⟨by decide +kernel, by decide +kernel⟩, List.mem_of_getElem? (i := 114) (by decide +kernel), List.mem_of_getElem? (i := 311) (by decide +kernel), List.mem_of_getElem? (i := 312) (by decide +kernel)⟩
theorem lw_p3 : lw_okq (⟨"RoundPlans$Plans", "codeOfOnes", "(I)J"⟩, 5) := ⟨⟨by decide +kernel, by decide +kernel⟩, List.mem_of_getElem? (i := 133) (by decide +kernel), List.mem_of_getElem? (i := 330) (by decide +kernel), List.mem_of_getElem? (i := 331) (by decide +kernel)⟩
theorem lw_p4 : lw_okq (⟨"RoundPlans$Plans", "penaltiesOf", "(I)J"⟩, 5) := ⟨⟨by decide +kernel, by decide +kernel⟩, List.mem_of_getElem? (i := 133) (by decide +kernel), List.mem_of_getElem? (i := 338) (by decide +kernel), List.mem_of_getElem? (i := 339) (by decide +kernel)⟩
theorem lw_p5 : lw_okq (⟨"RoundPlans$Plans", "findPrice", "(IIJ)J"⟩, 5) := ⟨⟨by decide +kernel, by decide +kernel⟩, List.mem_of_getElem? (i := 133) (by decide +kernel), List.mem_of_getElem? (i := 343) (by decide +kernel), List.mem_of_getElem? (i := 344) (by decide +kernel)⟩
theorem lw_p6 : lw_okq (⟨"RoundPlans$Plans", "addRounds", "(II)V"⟩, 5) := ⟨⟨by decide +kernel, by decide +kernel⟩, List.mem_of_getElem? (i := 133) (by decide +kernel), List.mem_of_getElem? (i := 360) (by decide +kernel), List.mem_of_getElem? (i := 361) (by decide +kernel)⟩
theorem lw_p7 : lw_okq (⟨"RoundPlans$Plans", "leastWith", "(II)J"⟩, 5) := ⟨⟨by decide +kernel, by decide +kernel⟩, List.mem_of_getElem? (i := 133) (by decide +kernel), List.mem_of_getElem? (i := 364) (by decide +kernel), List.mem_of_getElem? (i := 365) (by decide +kernel)⟩
theorem lw_p8 : lw_okq (⟨"RoundPlans$Rounds", "findLatest", "(II)V"⟩, 4) := ⟨⟨by decide +kernel, by decide +kernel⟩, List.mem_of_getElem? (i := 114) (by decide +kernel), List.mem_of_getElem? (i := 394) (by decide +kernel), List.mem_of_getElem? (i := 395) (by decide +kernel)⟩
theorem lw_p9 : lw_okq (⟨"RoundPlans$Rounds", "findLatestAt", "(III)I"⟩, 4) := ⟨⟨by decide +kernel, by decide +kernel⟩, List.mem_of_getElem? (i := 114) (by decide +kernel), List.mem_of_getElem? (i := 398) (by decide +kernel), List.mem_of_getElem? (i := 399) (by decide +kernel)⟩
theorem lw_p10 : lw_okq (⟨"RoundPlans$Rounds", "firstInTime", "(III)I"⟩, 4) := ⟨⟨by decide +kernel, by decide +kernel⟩, List.mem_of_getElem? (i := 114) (by decide +kernel), List.mem_of_getElem? (i := 402) (by decide +kernel), List.mem_of_getElem? (i := 403) (by decide +kernel)⟩
theorem lw_p11 : lw_okq (⟨"RoundPlansModel", "isStop", "(I)Z"⟩, 28) := ⟨⟨by decide +kernel, by decide +kernel⟩, List.mem_of_getElem? (i := 449) (by decide +kernel), List.mem_of_getElem? (i := 554) (by decide +kernel), List.mem_of_getElem? (i := 555) (by decide +kernel)⟩
theorem lw_p12 : lw_okq (⟨"RoundPlansModel", "arePair", "(II)Z"⟩, 28) := ⟨⟨by decide +kernel, by decide +kernel⟩, List.mem_of_getElem? (i := 449) (by decide +kernel), List.mem_of_getElem? (i := 585) (by decide +kernel), List.mem_of_getElem? (i := 586) (by decide +kernel)⟩
theorem lw_p13 : lw_okq (⟨"RoundPlansModel", "leads", "(II)Z"⟩, 28) := ⟨⟨by decide +kernel, by decide +kernel⟩, List.mem_of_getElem? (i := 449) (by decide +kernel), List.mem_of_getElem? (i := 593) (by decide +kernel), List.mem_of_getElem? (i := 594) (by decide +kernel)⟩
theorem lw_p14 : lw_okq (⟨"RoundPlansModel", "driveAll", "(I)V"⟩, 28) := ⟨⟨by decide +kernel, by decide +kernel⟩, List.mem_of_getElem? (i := 449) (by decide +kernel), List.mem_of_getElem? (i := 601) (by decide +kernel), List.mem_of_getElem? (i := 602) (by decide +kernel)⟩
theorem lw_p15 : lw_okq (⟨"RoundPlansModel", "mayFollow", "(III)Z"⟩, 28) := ⟨⟨by decide +kernel, by decide +kernel⟩, List.mem_of_getElem? (i := 449) (by decide +kernel), List.mem_of_getElem? (i := 605) (by decide +kernel), List.mem_of_getElem? (i := 606) (by decide +kernel)⟩
def lw_privs_1 : List (MethodName × Nat) := [(⟨"RoundPlans$Rounds", "mayHave", "(II)Z"⟩, 4), (⟨"RoundPlans$Rounds", "findBack", "(II)I"⟩, 4), (⟨"RoundPlans$Rounds", "findReady", "(III)I"⟩, 4), (⟨"RoundPlans$Plans", "codeOfOnes", "(I)J"⟩, 5), (⟨"RoundPlans$Plans", "penaltiesOf", "(I)J"⟩, 5), (⟨"RoundPlans$Plans", "findPrice", "(IIJ)J"⟩, 5), (⟨"RoundPlans$Plans", "addRounds", "(II)V"⟩, 5), (⟨"RoundPlans$Plans", "leastWith", "(II)J"⟩, 5), (⟨"RoundPlans$Rounds", "findLatest", "(II)V"⟩, 4), (⟨"RoundPlans$Rounds", "findLatestAt", "(III)I"⟩, 4), (⟨"RoundPlans$Rounds", "firstInTime", "(III)I"⟩, 4), (⟨"RoundPlansModel", "isStop", "(I)Z"⟩, 28), (⟨"RoundPlansModel", "arePair", "(II)Z"⟩, 28), (⟨"RoundPlansModel", "leads", "(II)Z"⟩, 28), (⟨"RoundPlansModel", "driveAll", "(I)V"⟩, 28), (⟨"RoundPlansModel", "mayFollow", "(III)Z"⟩, 28)]
theorem lw_r1 : ∀ q ∈ lw_privs_1, lw_okq q := List.forall_mem_cons.mpr ⟨lw_p0, List.forall_mem_cons.mpr ⟨lw_p1, List.forall_mem_cons.mpr ⟨lw_p2, List.forall_mem_cons.mpr ⟨lw_p3, List.forall_mem_cons.mpr ⟨lw_p4, List.forall_mem_cons.mpr ⟨lw_p5, List.forall_mem_cons.mpr ⟨lw_p6, List.forall_mem_cons.mpr ⟨lw_p7, List.forall_mem_cons.mpr ⟨lw_p8, List.forall_mem_cons.mpr ⟨lw_p9, List.forall_mem_cons.mpr ⟨lw_p10, List.forall_mem_cons.mpr ⟨lw_p11, List.forall_mem_cons.mpr ⟨lw_p12, List.forall_mem_cons.mpr ⟨lw_p13, List.forall_mem_cons.mpr ⟨lw_p14, List.forall_mem_cons.mpr ⟨lw_p15, fun _ h => absurd h List.not_mem_nil⟩⟩⟩⟩⟩⟩⟩⟩⟩⟩⟩⟩⟩⟩⟩⟩
theorem lw_p16 : lw_okq (⟨"RoundPlansModel", "keep", "(II)V"⟩, 28) := ⟨⟨by decide +kernel, by decide +kernel⟩, List.mem_of_getElem? (i := 449) (by decide +kernel), List.mem_of_getElem? (i := 609) (by decide +kernel), List.mem_of_getElem? (i := 610) (by decide +kernel)⟩
theorem lw_p17 : lw_okq (⟨"RoundPlansModel", "drive", "(II)I"⟩, 28) := ⟨⟨by decide +kernel, by decide +kernel⟩, List.mem_of_getElem? (i := 449) (by decide +kernel), List.mem_of_getElem? (i := 613) (by decide +kernel), List.mem_of_getElem? (i := 614) (by decide +kernel)⟩
theorem lw_p18 : lw_okq (⟨"RoundPlansModel", "setOf", "(I)I"⟩, 28) := ⟨⟨by decide +kernel, by decide +kernel⟩, List.mem_of_getElem? (i := 449) (by decide +kernel), List.mem_of_getElem? (i := 617) (by decide +kernel), List.mem_of_getElem? (i := 618) (by decide +kernel)⟩
theorem lw_p19 : lw_okq (⟨"RoundPlansModel", "rowOf", "(I)I"⟩, 28) := ⟨⟨by decide +kernel, by decide +kernel⟩, List.mem_of_getElem? (i := 449) (by decide +kernel), List.mem_of_getElem? (i := 621) (by decide +kernel), List.mem_of_getElem? (i := 622) (by decide +kernel)⟩
theorem lw_p20 : lw_okq (⟨"RoundPlansModel", "bestPlan", "(I)I"⟩, 28) := ⟨⟨by decide +kernel, by decide +kernel⟩, List.mem_of_getElem? (i := 449) (by decide +kernel), List.mem_of_getElem? (i := 625) (by decide +kernel), List.mem_of_getElem? (i := 626) (by decide +kernel)⟩
theorem lw_p21 : lw_okq (⟨"RoundPlansModel", "costOf", "(II)J"⟩, 28) := ⟨⟨by decide +kernel, by decide +kernel⟩, List.mem_of_getElem? (i := 449) (by decide +kernel), List.mem_of_getElem? (i := 629) (by decide +kernel), List.mem_of_getElem? (i := 630) (by decide +kernel)⟩
theorem lw_p22 : lw_okq (⟨"RoundPlansModel", "setIn", "(II)I"⟩, 28) := ⟨⟨by decide +kernel, by decide +kernel⟩, List.mem_of_getElem? (i := 449) (by decide +kernel), List.mem_of_getElem? (i := 637) (by decide +kernel), List.mem_of_getElem? (i := 638) (by decide +kernel)⟩
theorem lw_p23 : lw_okq (⟨"RoundPlansModel", "tellRound", "(II)V"⟩, 28) := ⟨⟨by decide +kernel, by decide +kernel⟩, List.mem_of_getElem? (i := 449) (by decide +kernel), List.mem_of_getElem? (i := 641) (by decide +kernel), List.mem_of_getElem? (i := 642) (by decide +kernel)⟩
def lw_privs_2 : List (MethodName × Nat) := [(⟨"RoundPlansModel", "keep", "(II)V"⟩, 28), (⟨"RoundPlansModel", "drive", "(II)I"⟩, 28), (⟨"RoundPlansModel", "setOf", "(I)I"⟩, 28), (⟨"RoundPlansModel", "rowOf", "(I)I"⟩, 28), (⟨"RoundPlansModel", "bestPlan", "(I)I"⟩, 28), (⟨"RoundPlansModel", "costOf", "(II)J"⟩, 28), (⟨"RoundPlansModel", "setIn", "(II)I"⟩, 28), (⟨"RoundPlansModel", "tellRound", "(II)V"⟩, 28)]
theorem lw_r2 : ∀ q ∈ lw_privs_2, lw_okq q := List.forall_mem_cons.mpr ⟨lw_p16, List.forall_mem_cons.mpr ⟨lw_p17, List.forall_mem_cons.mpr ⟨lw_p18, List.forall_mem_cons.mpr ⟨lw_p19, List.forall_mem_cons.mpr ⟨lw_p20, List.forall_mem_cons.mpr ⟨lw_p21, List.forall_mem_cons.mpr ⟨lw_p22, List.forall_mem_cons.mpr ⟨lw_p23, fun _ h => absurd h List.not_mem_nil⟩⟩⟩⟩⟩⟩⟩⟩
def lw_privs : List (MethodName × Nat) := lw_privs_1 ++ (lw_privs_2)
def lw_tbl : List Cond := k2_sels lw_privs ++ tables_1
theorem lw_privs_ok : ∀ q ∈ lw_privs, lw_okq q := by
  show ∀ q ∈ lw_privs_1 ++ (lw_privs_2), lw_okq q
  exact List.forall_mem_append.mpr ⟨lw_r1, lw_r2⟩
/-- the tables' words that a call hands on -/
def zT : List Cond := lw_tbl.filter goodWord
theorem zT_of {x : Cond} (i : Nat) (h : tables_1[i]? = some x) (hg : goodWord x = true) : x ∈ zT := List.mem_filter.mpr ⟨List.mem_append_right _ (List.mem_of_getElem? h), hg⟩
theorem zT_sel {x : Cond} (i : Nat) (h : (k2_sels lw_privs)[i]? = some x) (hg : goodWord x = true) : x ∈ zT := List.mem_filter.mpr ⟨List.mem_append_left _ (List.mem_of_getElem? h), hg⟩
end
section
/-! NUMBERS: a Java int, a Java long out of a mathematical one -/
def zI (z : Int) : Int32 := Int32.ofInt z
def zL (z : Int) : Int64 := Int64.ofInt z
def rI (z : Int) : Prop := -2147483648 ≤ z ∧ z ≤ 2147483647
def rL (z : Int) : Prop := -9223372036854775808 ≤ z ∧ z ≤ 9223372036854775807
theorem rI_0 : rI 0 := ⟨by decide, by decide⟩
theorem rI_1 : rI 1 := ⟨by decide, by decide⟩
theorem zI_toInt {z : Int} (h : rI z) : (zI z).toInt = z := Int32.toInt_ofInt_of_le (by have := h.1; omega) (by have := h.2; omega)
theorem zL_toInt {z : Int} (h : rL z) : (zL z).toInt = z := Int64.toInt_ofInt_of_le (by have := h.1; omega) (by have := h.2; omega)
theorem zI_add (a b : Int) : zI a + zI b = zI (a + b) := (Int32.ofInt_add a b).symm
theorem zI_sub (a b : Int) : zI a - zI b = zI (a - b) := (Int32.ofInt_sub a b).symm
theorem zI_mul (a b : Int) : zI a * zI b = zI (a * b) := (Int32.ofInt_mul a b).symm
theorem zL_add (a b : Int) : zL a + zL b = zL (a + b) := (Int64.ofInt_add a b).symm
theorem zL_sub (a b : Int) : zL a - zL b = zL (a - b) := (Int64.ofInt_sub a b).symm
theorem zL_mul (a b : Int) : zL a * zL b = zL (a * b) := (Int64.ofInt_mul a b).symm
theorem zI_le {a b : Int} (ha : rI a) (hb : rI b) : zI a ≤ zI b ↔ a ≤ b := by rw [Int32.le_iff_toInt_le, zI_toInt ha, zI_toInt hb]
theorem zI_lt {a b : Int} (ha : rI a) (hb : rI b) : zI a < zI b ↔ a < b := by rw [Int32.lt_iff_toInt_lt, zI_toInt ha, zI_toInt hb]
theorem zI_eq {a b : Int} (ha : rI a) (hb : rI b) : zI a = zI b ↔ a = b := by rw [← Int32.toInt_inj, zI_toInt ha, zI_toInt hb]
theorem zL_le {a b : Int} (ha : rL a) (hb : rL b) : zL a ≤ zL b ↔ a ≤ b := by rw [Int64.le_iff_toInt_le, zL_toInt ha, zL_toInt hb]
theorem zL_lt {a b : Int} (ha : rL a) (hb : rL b) : zL a < zL b ↔ a < b := by rw [Int64.lt_iff_toInt_lt, zL_toInt ha, zL_toInt hb]
theorem zL_eq {a b : Int} (ha : rL a) (hb : rL b) : zL a = zL b ↔ a = b := by rw [← Int64.toInt_inj, zL_toInt ha, zL_toInt hb]
theorem zI_nat (n : Nat) : zI (n : Int) = nI n := Int32.ofInt_eq_ofNat
theorem zL_nat (n : Nat) : zL (n : Int) = lN n := Int64.ofInt_eq_ofNat
theorem zI_of (x : Int32) : x = zI x.toInt := (Int32.ofInt_toInt x).symm
theorem zL_of (x : Int64) : x = zL x.toInt := (Int64.ofInt_toInt x).symm
theorem rI_of (x : Int32) : rI x.toInt := ⟨by have := x.le_toInt; omega, by have := x.toInt_lt; omega⟩
theorem rL_of (x : Int64) : rL x.toInt := ⟨by have := x.le_toInt; omega, by have := x.toInt_lt; omega⟩
theorem zI_i2l {z : Int} (h : rI z) : (zI z).toInt64 = zL z := by
  rw [← Int64.ofInt_int32ToInt, zI_toInt h]; rfl
theorem zL_l2i {z : Int} (h : rL z) : (zL z).toInt32 = zI z := by
  rw [← Int32.ofInt_int64ToInt, zL_toInt h]; rfl
theorem zI_cl {n : Nat} (h : n < 2 ^ 31) : (zI (n : Int)).toNatClampNeg = n := by rw [zI_nat]; exact nI_clamp h
theorem zI_in {i n : Nat} (h : i < n) (hn : n < 2 ^ 31) : vp_in (zI (i : Int)) n := by rw [zI_nat]; exact vp_in_nI h hn
theorem zI_and (a b : Nat) : zI (a : Int) &&& zI (b : Int) = zI ((a &&& b : Nat) : Int) := by
  rw [zI_nat, zI_nat, zI_nat]; unfold nI; apply Int32.toBitVec.inj; simp
theorem zI_or (a b : Nat) : zI (a : Int) ||| zI (b : Int) = zI ((a ||| b : Nat) : Int) := by
  rw [zI_nat, zI_nat, zI_nat]; unfold nI; apply Int32.toBitVec.inj; simp
theorem zI_xor (a b : Nat) : zI (a : Int) ^^^ zI (b : Int) = zI ((a ^^^ b : Nat) : Int) := by
  rw [zI_nat, zI_nat, zI_nat]; unfold nI; apply Int32.toBitVec.inj; simp
theorem zI_sl : ∀ k, k < 32 → ((zI ((k : Nat) : Int) &&& 31).toBitVec.smod 32).toNat = k := by
  intro k hk
  rw [zI_nat]
  revert k; decide +kernel
theorem zI_shl {n k : Nat} (hk : k < 32) (h : n * 2 ^ k < 2 ^ 32) : zI (n : Int) <<< (zI (k : Int) &&& 31) = zI ((n * 2 ^ k : Nat) : Int) := by
  rw [zI_nat n, zI_nat (n * 2 ^ k)]
  exact pk_shlN _ k (zI_sl k hk) h
theorem zI_shr {n k : Nat} (hk : k < 32) (h : n < 2 ^ 31) : zI (n : Int) >>> (zI (k : Int) &&& 31) = zI ((n / 2 ^ k : Nat) : Int) := by
  rw [zI_nat n, zI_nat (n / 2 ^ k)]
  exact pk_shrN h _ k (zI_sl k hk)
/-! THE STORE: every cell that lives on, by its number; its contents are numbers -/
/-- addresses, class numbers, the classes of int[] (0), long[] (1), boolean[] (2) -/
abbrev zW : Type := (Nat → Nat) × va_G × (Nat → ClassId)
/-- how many cells; of each: 0 int[], 1 long[], 2 boolean[], k + 3 an object of class k; its length; its fields (0 int, 1 long, 2 a cell) ; and the links to nest mates that the walks use -/
abbrev zY : Type := Nat × (Nat → Nat × Nat × List (Nat × Nat)) × List (String × Nat × MethodName × String)
def zF (q : Nat → Nat) (f : Nat → Int) (j : Nat) (t : Nat × Nat) : Value := match t.1 with
  | 0 => .int (zI (f j))
  | 1 => .long (zL (f j))
  | _ => .ref (q t.2)
def zE (w : zW) (d : Nat × Nat × List (Nat × Nat)) (f : Nat → Int) : va_E := match d.1 with
  | 0 => .inl ((w.2.2 0), d.2.1, .inl (fun j => zI (f j)))
  | 1 => .inl ((w.2.2 1), d.2.1, .inr (.inl (fun j => zL (f j))))
  | 2 => .inl (w.2.2 2, d.2.1, .inl (fun j => zI (f j)))
  | k + 3 => .inr (k, d.2.2.mapIdx (zF w.1 f))
def zX (w : zW) (L : zY) (σ : Nat → Nat → Int) : va_W := (List.range L.1).map fun k => (w.1 k, zE w (L.2.1 k) (σ k))
def zA (w : zW) (N sz : Nat) : Nat → Prop := fun a => (∃ k, k < N ∧ a = w.1 k) ∨ sz ≤ a
def zN (w : zW) (N : Nat) : Prop := ∀ i j, i < N → j < N → w.1 i = w.1 j → i = j
/-- one place of a cell anew; a whole cell anew -/
def zU (σ : Nat → Nat → Int) (k j : Nat) (v : Int) : Nat → Nat → Int := fun k' j' => if k' = k ∧ j' = j then v else σ k' j'
def zUA (σ : Nat → Nat → Int) (k : Nat) (f : Nat → Int) : Nat → Nat → Int := fun k' => if k' = k then f else σ k'
theorem zU_ne {σ : Nat → Nat → Int} {k j : Nat} {v : Int} {k' : Nat} (h : k' ≠ k) : zU σ k j v k' = σ k' := by
  funext j'; simp [zU, h]
theorem zU_self {σ : Nat → Nat → Int} {k j : Nat} {v : Int} : zU σ k j v k j = v := by simp [zU]
theorem zU_nj {σ : Nat → Nat → Int} {k j j' : Nat} {v : Int} (h : j' ≠ j) : zU σ k j v k j' = σ k j' := by simp [zU, h]
theorem zUA_ne {σ : Nat → Nat → Int} {k : Nat} {f : Nat → Int} {k' : Nat} (h : k' ≠ k) : zUA σ k f k' = σ k' := by simp [zUA, h]
theorem zUA_self {σ : Nat → Nat → Int} {k : Nat} {f : Nat → Int} : zUA σ k f k = f := by simp [zUA]
theorem zX_get {w : zW} {L : zY} {σ : Nat → Nat → Int} {k : Nat} (h : k < L.1) : (zX w L σ)[k]? = some (w.1 k, zE w (L.2.1 k) (σ k)) := by
  simp [zX, h]
theorem zX_of {w : zW} {L : zY} {σ : Nat → Nat → Int} {k : Nat} {x : Nat × va_E} (h : (zX w L σ)[k]? = some x) : k < L.1 ∧ x = (w.1 k, zE w (L.2.1 k) (σ k)) := by
  have hk : k < L.1 := by
    have := (List.getElem?_eq_some_iff.mp h).1
    simpa [zX] using this
  rw [zX_get hk] at h
  exact ⟨hk, (Option.some.inj h).symm⟩
theorem zX_D {w : zW} {L : zY} {σ : Nat → Nat → Int} {sz : Nat} (h : zN w L.1) : va_D (zA w L.1 sz) (zX w L σ) := by
  refine ⟨fun i j x y hx hy hxy => ?_, fun k x hx => ?_⟩
  · obtain ⟨hi, rfl⟩ := zX_of hx
    obtain ⟨hj, rfl⟩ := zX_of hy
    exact h i j hi hj hxy
  · obtain ⟨hk, rfl⟩ := zX_of hx
    exact Or.inl ⟨k, hk, rfl⟩
theorem zX_set {w : zW} {L : zY} {σ σ' : Nat → Nat → Int} {k : Nat} {x : va_E} (hx : x = zE w (L.2.1 k) (σ' k)) (hne : ∀ k', k' ≠ k → σ' k' = σ k') : (zX w L σ).set k (w.1 k, x) = zX w L σ' := by
  subst hx
  apply List.ext_getElem?
  intro i
  by_cases hik : i = k
  · subst hik
    by_cases hi : i < L.1
    · rw [List.getElem?_set_self (by simpa [zX] using hi), zX_get hi]
    · rw [List.getElem?_eq_none (by simpa [zX] using hi), List.getElem?_eq_none (by simpa [zX] using hi)]
  · rw [List.getElem?_set_ne (Ne.symm hik)]
    by_cases hi : i < L.1
    · rw [zX_get hi, zX_get hi, hne i hik]
    · rw [List.getElem?_eq_none (by simpa [zX] using hi), List.getElem?_eq_none (by simpa [zX] using hi)]
theorem zA_mono {w : zW} {N a b : Nat} (h : a ≤ b) {x : Nat} (hx : zA w N b x) : zA w N a x := by
  rcases hx with hx | hx
  · exact Or.inl hx
  · exact Or.inr (Nat.le_trans h hx)
def zK (L : zY) (U : State) : Prop := ∀ q ∈ L.2.2, va_Nw (.methodLinkNest q.1 q.2.1 q.2.2.1 q.2.2.2) U
/-- what a method's walk knows all along -/
def zC (p : Program) (s : State) (m : MethodId) (args : Array Value) (meth : Method) (c : Code) (cc : ByteArray) (nL : Nat) (own : String) (w : zW) (L : zY) (cl : List vw_C) : Prop :=
  p.tables.exec = Jvm.exec ∧ c.code = cc ∧ c.maxLocals = nL ∧ s.vm.findClass own = some m.cls ∧ (∀ x ∈ zT, x.before args s = true) ∧ va_K w.2.1 cl [(w.2.2 0, .int), (w.2.2 1, .long), (w.2.2 2, .boolean)] s ∧ zN w L.1 ∧ meth.locks = false ∧ zK L s
/-- from this place, these locals, this stack, this store, the machine comes to Q -/
def V (p : Program) (l : Launch) (e : Env) (R : Room) (s : State) (m : MethodId) (args : Array Value) (below : List Frame) (meth : Method) (c : Code) (nL : Nat) (w : zW) (L : zY) (cl : List vw_C) (kc ks : Nat) (Q : State → Prop) (pc : Nat) (lv : List (Nat × Value)) (st : List Value) (σ : Nat → Nat → Int) : Prop :=
  ∀ (ls : Array Slot) (H : Heap) (locs : List Loc), lv_has ls nL lv → va_P w.2.1 cl (zX w L σ) H → va_S (zA w L.1 s.heap.size) s.heap H locs → W p l e R s m args below meth c H locs kc ks Q (F0 m pc ls st)
section ZV
variable {p : Program} {l : Launch} {e : Env} {R : Room} {s : State} {m : MethodId} {args : Array Value} {below : List Frame} {meth : Method} {c : Code} {nL : Nat} {w : zW} {L : zY} {cl : List vw_C} {kc ks : Nat} {Q : State → Prop} {cc : ByteArray} {own : String} {pc : Nat} {lv lv' : List (Nat × Value)} {st : List Value} {σ : Nat → Nat → Int}
theorem V_iconst (C : zC p s m args meth c cc nL own w L cl) {n : Int} (hd : decode cc pc = .ok (.iconst n, 1)) (k : V p l e R s m args below meth c nL w L cl kc ks Q (pc + 1) lv (.int (zI n) :: st) σ) : V p l e R s m args below meth c nL w L cl kc ks Q pc lv st σ :=
  fun ls H locs hl hP hS => lv_iconst C.1 C.2.1 hd rfl (k ls H locs hl hP hS)
theorem V_bipush (C : zC p s m args meth c cc nL own w L cl) {n : Int} (hd : decode cc pc = .ok (.bipush n, 2)) (hv : (Int8.ofInt n).toInt32 = zI n) (k : V p l e R s m args below meth c nL w L cl kc ks Q (pc + 2) lv (.int (zI n) :: st) σ) : V p l e R s m args below meth c nL w L cl kc ks Q pc lv st σ :=
  fun ls H locs hl hP hS => lv_bipush C.1 C.2.1 hd hv (k ls H locs hl hP hS)
theorem V_sipush (C : zC p s m args meth c cc nL own w L cl) {n : Int} (hd : decode cc pc = .ok (.sipush n, 3)) (hv : (Int16.ofInt n).toInt32 = zI n) (k : V p l e R s m args below meth c nL w L cl kc ks Q (pc + 3) lv (.int (zI n) :: st) σ) : V p l e R s m args below meth c nL w L cl kc ks Q pc lv st σ :=
  fun ls H locs hl hP hS => lv_sipush C.1 C.2.1 hd hv (k ls H locs hl hP hS)
theorem V_lconst (C : zC p s m args meth c cc nL own w L cl) {n : Fin 2} (z : Int) (hd : decode cc pc = .ok (.lconst n, 1)) (hv : Int64.ofNat (n : Nat) = zL z) (k : V p l e R s m args below meth c nL w L cl kc ks Q (pc + 1) lv (.long (zL z) :: st) σ) : V p l e R s m args below meth c nL w L cl kc ks Q pc lv st σ :=
  fun ls H locs hl hP hS => lv_lconst C.1 C.2.1 hd hv (k ls H locs hl hP hS)
theorem V_ldc (C : zC p s m args meth c cc nL own w L cl) {ix : Nat} (z : Int) (hd : decode cc pc = .ok (.ldc ix, 2)) (hc : Jvm.Cond.constant own ix (zI z) ∈ zT) (k : V p l e R s m args below meth c nL w L cl kc ks Q (pc + 2) lv (.int (zI z) :: st) σ) : V p l e R s m args below meth c nL w L cl kc ks Q pc lv st σ :=
  fun ls H locs hl hP hS => lv_ldc C.1 C.2.1 C.2.2.2.1 (C.2.2.2.2.1 _ hc) hd (k ls H locs hl hP hS)
theorem V_ldc2 (C : zC p s m args meth c cc nL own w L cl) {ix : Nat} (z : Int) (hd : decode cc pc = .ok (.ldc2_w ix, 3)) (hc : Jvm.Cond.constantLong own ix (zL z) ∈ zT) (k : V p l e R s m args below meth c nL w L cl kc ks Q (pc + 3) lv (.long (zL z) :: st) σ) : V p l e R s m args below meth c nL w L cl kc ks Q pc lv st σ :=
  fun ls H locs hl hP hS => lv_ldc2 C.1 C.2.1 C.2.2.2.1 (C.2.2.2.2.1 _ hc) hd (k ls H locs hl hP hS)
theorem V_iload (C : zC p s m args meth c cc nL own w L cl) {i : Nat} {x : Int32} (hd : decode cc pc = .ok (.iload i, 2)) (k0 : Nat) (hk : lv[k0]? = some (i, .int x)) (k : V p l e R s m args below meth c nL w L cl kc ks Q (pc + 2) lv (.int x :: st) σ) : V p l e R s m args below meth c nL w L cl kc ks Q pc lv st σ :=
  fun ls H locs hl hP hS => lv_iload C.1 C.2.1 hd (lv_at hl k0 hk) (k ls H locs hl hP hS)
theorem V_iload_n (C : zC p s m args meth c cc nL own w L cl) {i : Fin 4} {x : Int32} (hd : decode cc pc = .ok (.iload_n i, 1)) (k0 : Nat) (hk : lv[k0]? = some ((i : Nat), .int x)) (k : V p l e R s m args below meth c nL w L cl kc ks Q (pc + 1) lv (.int x :: st) σ) : V p l e R s m args below meth c nL w L cl kc ks Q pc lv st σ :=
  fun ls H locs hl hP hS => lv_iload_n C.1 C.2.1 hd rfl (lv_at hl k0 hk) (k ls H locs hl hP hS)
theorem V_lload (C : zC p s m args meth c cc nL own w L cl) {i : Nat} {x : Int64} (hd : decode cc pc = .ok (.lload i, 2)) (k0 : Nat) (hk : lv[k0]? = some (i, .long x)) (k : V p l e R s m args below meth c nL w L cl kc ks Q (pc + 2) lv (.long x :: st) σ) : V p l e R s m args below meth c nL w L cl kc ks Q pc lv st σ :=
  fun ls H locs hl hP hS => lv_lload C.1 C.2.1 hd (lv_at hl k0 hk) (k ls H locs hl hP hS)
theorem V_lload_n (C : zC p s m args meth c cc nL own w L cl) {i : Fin 4} {x : Int64} (hd : decode cc pc = .ok (.lload_n i, 1)) (k0 : Nat) (hk : lv[k0]? = some ((i : Nat), .long x)) (k : V p l e R s m args below meth c nL w L cl kc ks Q (pc + 1) lv (.long x :: st) σ) : V p l e R s m args below meth c nL w L cl kc ks Q pc lv st σ :=
  fun ls H locs hl hP hS => lv_lload_n C.1 C.2.1 hd rfl (lv_at hl k0 hk) (k ls H locs hl hP hS)
theorem V_aload (C : zC p s m args meth c cc nL own w L cl) {i x : Nat} (hd : decode cc pc = .ok (.aload i, 2)) (k0 : Nat) (hk : lv[k0]? = some (i, .ref x)) (k : V p l e R s m args below meth c nL w L cl kc ks Q (pc + 2) lv (.ref x :: st) σ) : V p l e R s m args below meth c nL w L cl kc ks Q pc lv st σ :=
  fun ls H locs hl hP hS => lv_aload C.1 C.2.1 hd (lv_at hl k0 hk) (k ls H locs hl hP hS)
theorem V_aload_n (C : zC p s m args meth c cc nL own w L cl) {i : Fin 4} {x : Nat} (hd : decode cc pc = .ok (.aload_n i, 1)) (k0 : Nat) (hk : lv[k0]? = some ((i : Nat), .ref x)) (k : V p l e R s m args below meth c nL w L cl kc ks Q (pc + 1) lv (.ref x :: st) σ) : V p l e R s m args below meth c nL w L cl kc ks Q pc lv st σ :=
  fun ls H locs hl hP hS => lv_aload_n C.1 C.2.1 hd rfl (lv_at hl k0 hk) (k ls H locs hl hP hS)
theorem V_istore (C : zC p s m args meth c cc nL own w L cl) {i : Nat} {x : Int32} (hd : decode cc pc = .ok (.istore i, 2)) (hn : i < nL) (hl : (i, Value.int x) :: lv.filter (fun q => !(q.1 == i) && !(q.1 + 1 == i && q.2.category == 2)) = lv') (k : V p l e R s m args below meth c nL w L cl kc ks Q (pc + 2) lv' st σ) : V p l e R s m args below meth c nL w L cl kc ks Q pc lv (.int x :: st) σ :=
  fun ls H locs hls hP hS => lv_istore C.1 C.2.1 hd hls hn hl (fun ls' hl' => k ls' H locs hl' hP hS)
theorem V_istore_n (C : zC p s m args meth c cc nL own w L cl) {i : Fin 4} {x : Int32} (hd : decode cc pc = .ok (.istore_n i, 1)) (hn : (i : Nat) < nL) (hl : ((i : Nat), Value.int x) :: lv.filter (fun q => !(q.1 == (i : Nat)) && !(q.1 + 1 == (i : Nat) && q.2.category == 2)) = lv') (k : V p l e R s m args below meth c nL w L cl kc ks Q (pc + 1) lv' st σ) : V p l e R s m args below meth c nL w L cl kc ks Q pc lv (.int x :: st) σ :=
  fun ls H locs hls hP hS => lv_istore_n C.1 C.2.1 hd rfl hls hn hl (fun ls' hl' => k ls' H locs hl' hP hS)
theorem V_lstore (C : zC p s m args meth c cc nL own w L cl) {i : Nat} {x : Int64} (hd : decode cc pc = .ok (.lstore i, 2)) (hn : i + 1 < nL) (hl : (i, Value.long x) :: lv.filter (fun q => !(q.1 == i) && (!(q.1 == i + 1) && !(q.1 + 1 == i && q.2.category == 2))) = lv') (k : V p l e R s m args below meth c nL w L cl kc ks Q (pc + 2) lv' st σ) : V p l e R s m args below meth c nL w L cl kc ks Q pc lv (.long x :: st) σ :=
  fun ls H locs hls hP hS => lv_lstore C.1 C.2.1 hd hls hn hl (fun ls' hl' => k ls' H locs hl' hP hS)
theorem V_lstore_n (C : zC p s m args meth c cc nL own w L cl) {i : Fin 4} {x : Int64} (hd : decode cc pc = .ok (.lstore_n i, 1)) (hn : (i : Nat) + 1 < nL) (hl : ((i : Nat), Value.long x) :: lv.filter (fun q => !(q.1 == (i : Nat)) && (!(q.1 == (i : Nat) + 1) && !(q.1 + 1 == (i : Nat) && q.2.category == 2))) = lv') (k : V p l e R s m args below meth c nL w L cl kc ks Q (pc + 1) lv' st σ) : V p l e R s m args below meth c nL w L cl kc ks Q pc lv (.long x :: st) σ :=
  fun ls H locs hls hP hS => lv_lstore_n C.1 C.2.1 hd rfl hls hn hl (fun ls' hl' => k ls' H locs hl' hP hS)
theorem V_iinc (C : zC p s m args meth c cc nL own w L cl) {i : Nat} {n z : Int} (hd : decode cc pc = .ok (.iinc i n, 3)) (k0 : Nat) (hk : lv[k0]? = some (i, .int (zI z))) (hn : i < nL) (hl : (i, Value.int (zI (z + n))) :: lv.filter (fun q => !(q.1 == i) && !(q.1 + 1 == i && q.2.category == 2)) = lv') (k : V p l e R s m args below meth c nL w L cl kc ks Q (pc + 3) lv' st σ) : V p l e R s m args below meth c nL w L cl kc ks Q pc lv st σ :=
  fun ls H locs hls hP hS => lv_iinc C.1 C.2.1 hd hls hk (zI_add z n) hn hl (fun ls' hl' => k ls' H locs hl' hP hS)
theorem V_iadd (C : zC p s m args meth c cc nL own w L cl) {a b : Int} (hd : decode cc pc = .ok (.iadd, 1)) (k : V p l e R s m args below meth c nL w L cl kc ks Q (pc + 1) lv (.int (zI (a + b)) :: st) σ) : V p l e R s m args below meth c nL w L cl kc ks Q pc lv (.int (zI b) :: .int (zI a) :: st) σ :=
  fun ls H locs hl hP hS => lv_iadd C.1 C.2.1 hd (by rw [zI_add]; exact k ls H locs hl hP hS)
theorem V_isub (C : zC p s m args meth c cc nL own w L cl) {a b : Int} (hd : decode cc pc = .ok (.isub, 1)) (k : V p l e R s m args below meth c nL w L cl kc ks Q (pc + 1) lv (.int (zI (a - b)) :: st) σ) : V p l e R s m args below meth c nL w L cl kc ks Q pc lv (.int (zI b) :: .int (zI a) :: st) σ :=
  fun ls H locs hl hP hS => lv_isub C.1 C.2.1 hd (by rw [zI_sub]; exact k ls H locs hl hP hS)
theorem V_imul (C : zC p s m args meth c cc nL own w L cl) {a b : Int} (hd : decode cc pc = .ok (.imul, 1)) (k : V p l e R s m args below meth c nL w L cl kc ks Q (pc + 1) lv (.int (zI (a * b)) :: st) σ) : V p l e R s m args below meth c nL w L cl kc ks Q pc lv (.int (zI b) :: .int (zI a) :: st) σ :=
  fun ls H locs hl hP hS => lv_imul C.1 C.2.1 hd (by rw [zI_mul]; exact k ls H locs hl hP hS)
theorem V_ladd (C : zC p s m args meth c cc nL own w L cl) {a b : Int} (hd : decode cc pc = .ok (.ladd, 1)) (k : V p l e R s m args below meth c nL w L cl kc ks Q (pc + 1) lv (.long (zL (a + b)) :: st) σ) : V p l e R s m args below meth c nL w L cl kc ks Q pc lv (.long (zL b) :: .long (zL a) :: st) σ :=
  fun ls H locs hl hP hS => lv_ladd C.1 C.2.1 hd (by rw [zL_add]; exact k ls H locs hl hP hS)
theorem V_lsub (C : zC p s m args meth c cc nL own w L cl) {a b : Int} (hd : decode cc pc = .ok (.lsub, 1)) (k : V p l e R s m args below meth c nL w L cl kc ks Q (pc + 1) lv (.long (zL (a - b)) :: st) σ) : V p l e R s m args below meth c nL w L cl kc ks Q pc lv (.long (zL b) :: .long (zL a) :: st) σ :=
  fun ls H locs hl hP hS => lv_lsub C.1 C.2.1 hd (by rw [zL_sub]; exact k ls H locs hl hP hS)
theorem V_lmul (C : zC p s m args meth c cc nL own w L cl) {a b : Int} (hd : decode cc pc = .ok (.lmul, 1)) (k : V p l e R s m args below meth c nL w L cl kc ks Q (pc + 1) lv (.long (zL (a * b)) :: st) σ) : V p l e R s m args below meth c nL w L cl kc ks Q pc lv (.long (zL b) :: .long (zL a) :: st) σ :=
  fun ls H locs hl hP hS => lv_lmul C.1 C.2.1 hd (by rw [zL_mul]; exact k ls H locs hl hP hS)
/-- a bit operation, with its value as a number given -/
theorem V_iand (C : zC p s m args meth c cc nL own w L cl) {x y : Int32} (z : Int) (hd : decode cc pc = .ok (.iand, 1)) (hz : x &&& y = zI z) (k : V p l e R s m args below meth c nL w L cl kc ks Q (pc + 1) lv (.int (zI z) :: st) σ) : V p l e R s m args below meth c nL w L cl kc ks Q pc lv (.int y :: .int x :: st) σ :=
  fun ls H locs hl hP hS => lv_iand C.1 C.2.1 hd (by rw [hz]; exact k ls H locs hl hP hS)
theorem V_ior (C : zC p s m args meth c cc nL own w L cl) {x y : Int32} (z : Int) (hd : decode cc pc = .ok (.ior, 1)) (hz : x ||| y = zI z) (k : V p l e R s m args below meth c nL w L cl kc ks Q (pc + 1) lv (.int (zI z) :: st) σ) : V p l e R s m args below meth c nL w L cl kc ks Q pc lv (.int y :: .int x :: st) σ :=
  fun ls H locs hl hP hS => lv_ior C.1 C.2.1 hd (by rw [hz]; exact k ls H locs hl hP hS)
theorem V_ixor (C : zC p s m args meth c cc nL own w L cl) {x y : Int32} (z : Int) (hd : decode cc pc = .ok (.ixor, 1)) (hz : x ^^^ y = zI z) (k : V p l e R s m args below meth c nL w L cl kc ks Q (pc + 1) lv (.int (zI z) :: st) σ) : V p l e R s m args below meth c nL w L cl kc ks Q pc lv (.int y :: .int x :: st) σ :=
  fun ls H locs hl hP hS => lv_ixor C.1 C.2.1 hd (by rw [hz]; exact k ls H locs hl hP hS)
theorem V_ishl (C : zC p s m args meth c cc nL own w L cl) {x y : Int32} (z : Int) (hd : decode cc pc = .ok (.ishl, 1)) (hz : x <<< (y &&& 31) = zI z) (k : V p l e R s m args below meth c nL w L cl kc ks Q (pc + 1) lv (.int (zI z) :: st) σ) : V p l e R s m args below meth c nL w L cl kc ks Q pc lv (.int y :: .int x :: st) σ :=
  fun ls H locs hl hP hS => lv_ishl C.1 C.2.1 hd (by rw [hz]; exact k ls H locs hl hP hS)
theorem V_ishr (C : zC p s m args meth c cc nL own w L cl) {x y : Int32} (z : Int) (hd : decode cc pc = .ok (.ishr, 1)) (hz : x >>> (y &&& 31) = zI z) (k : V p l e R s m args below meth c nL w L cl kc ks Q (pc + 1) lv (.int (zI z) :: st) σ) : V p l e R s m args below meth c nL w L cl kc ks Q pc lv (.int y :: .int x :: st) σ :=
  fun ls H locs hl hP hS => lv_ishr C.1 C.2.1 hd (by rw [hz]; exact k ls H locs hl hP hS)
theorem V_iushr (C : zC p s m args meth c cc nL own w L cl) {x y : Int32} (z : Int) (hd : decode cc pc = .ok (.iushr, 1)) (hz : (x.toUInt32 >>> (y.toUInt32 &&& Int32.toUInt32 31)).toInt32 = zI z) (k : V p l e R s m args below meth c nL w L cl kc ks Q (pc + 1) lv (.int (zI z) :: st) σ) : V p l e R s m args below meth c nL w L cl kc ks Q pc lv (.int y :: .int x :: st) σ :=
  fun ls H locs hl hP hS => lv_iushr C.1 C.2.1 hd hz (k ls H locs hl hP hS)
theorem V_lshl (C : zC p s m args meth c cc nL own w L cl) {x : Int64} {y : Int32} (z : Int) (hd : decode cc pc = .ok (.lshl, 1)) (hz : x <<< (y.toInt64 &&& 63) = zL z) (k : V p l e R s m args below meth c nL w L cl kc ks Q (pc + 1) lv (.long (zL z) :: st) σ) : V p l e R s m args below meth c nL w L cl kc ks Q pc lv (.int y :: .long x :: st) σ :=
  fun ls H locs hl hP hS => lv_lshl C.1 C.2.1 hd hz (k ls H locs hl hP hS)
theorem V_lshr (C : zC p s m args meth c cc nL own w L cl) {x : Int64} {y : Int32} (z : Int) (hd : decode cc pc = .ok (.lshr, 1)) (hz : x >>> (y.toInt64 &&& 63) = zL z) (k : V p l e R s m args below meth c nL w L cl kc ks Q (pc + 1) lv (.long (zL z) :: st) σ) : V p l e R s m args below meth c nL w L cl kc ks Q pc lv (.int y :: .long x :: st) σ :=
  fun ls H locs hl hP hS => lv_lshr C.1 C.2.1 hd hz (k ls H locs hl hP hS)
theorem V_i2l (C : zC p s m args meth c cc nL own w L cl) {z : Int} (hd : decode cc pc = .ok (.i2l, 1)) (hz : rI z) (k : V p l e R s m args below meth c nL w L cl kc ks Q (pc + 1) lv (.long (zL z) :: st) σ) : V p l e R s m args below meth c nL w L cl kc ks Q pc lv (.int (zI z) :: st) σ :=
  fun ls H locs hl hP hS => lv_i2l C.1 C.2.1 hd (zI_i2l hz) (k ls H locs hl hP hS)
theorem V_l2i (C : zC p s m args meth c cc nL own w L cl) {z : Int} (hd : decode cc pc = .ok (.l2i, 1)) (hz : rL z) (k : V p l e R s m args below meth c nL w L cl kc ks Q (pc + 1) lv (.int (zI z) :: st) σ) : V p l e R s m args below meth c nL w L cl kc ks Q pc lv (.long (zL z) :: st) σ :=
  fun ls H locs hl hP hS => lv_l2i C.1 C.2.1 hd (zL_l2i hz) (k ls H locs hl hP hS)
theorem V_dup (C : zC p s m args meth c cc nL own w L cl) {v : Value} (hd : decode cc pc = .ok (.dup, 1)) (hv : v.category = 1) (k : V p l e R s m args below meth c nL w L cl kc ks Q (pc + 1) lv (v :: v :: st) σ) : V p l e R s m args below meth c nL w L cl kc ks Q pc lv (v :: st) σ :=
  fun ls H locs hl hP hS => lv_dup C.1 C.2.1 hd hv (k ls H locs hl hP hS)
theorem V_dup2 (C : zC p s m args meth c cc nL own w L cl) {v u : Value} (hd : decode cc pc = .ok (.dup2, 1)) (hv : v.category = 1) (hu : u.category = 1) (k : V p l e R s m args below meth c nL w L cl kc ks Q (pc + 1) lv (v :: u :: v :: u :: st) σ) : V p l e R s m args below meth c nL w L cl kc ks Q pc lv (v :: u :: st) σ :=
  fun ls H locs hl hP hS => lv_dup2_11 C.1 C.2.1 hd hv hu (k ls H locs hl hP hS)
theorem V_pop (C : zC p s m args meth c cc nL own w L cl) {v : Value} (hd : decode cc pc = .ok (.pop, 1)) (hv : v.category = 1) (k : V p l e R s m args below meth c nL w L cl kc ks Q (pc + 1) lv st σ) : V p l e R s m args below meth c nL w L cl kc ks Q pc lv (v :: st) σ :=
  fun ls H locs hl hP hS => lv_pop C.1 C.2.1 hd hv (k ls H locs hl hP hS)
theorem V_goto (C : zC p s m args meth c cc nL own w L cl) {off : Int} (tgt : Nat) (hd : decode cc pc = .ok (.goto off, 3)) (ht : (pc : Int) + off = (tgt : Int)) (k : V p l e R s m args below meth c nL w L cl kc ks Q tgt lv st σ) : V p l e R s m args below meth c nL w L cl kc ks Q pc lv st σ :=
  fun ls H locs hl hP hS => lv_goto C.1 C.2.1 hd ht (k ls H locs hl hP hS)
/-- the number on top, said otherwise; the same of a long -/
theorem V_ti {a b : Int} (h : a = b) (k : V p l e R s m args below meth c nL w L cl kc ks Q pc lv (.int (zI b) :: st) σ) : V p l e R s m args below meth c nL w L cl kc ks Q pc lv (.int (zI a) :: st) σ := h ▸ k
theorem V_tl {a b : Int} (h : a = b) (k : V p l e R s m args below meth c nL w L cl kc ks Q pc lv (.long (zL b) :: st) σ) : V p l e R s m args below meth c nL w L cl kc ks Q pc lv (.long (zL a) :: st) σ := h ▸ k
/-- fewer locals, in another order -/
theorem V_sub (ks' : List Nat) (hl : lv_pick lv ks' = lv') (k : V p l e R s m args below meth c nL w L cl kc ks Q pc lv' st σ) : V p l e R s m args below meth c nL w L cl kc ks Q pc lv st σ :=
  fun ls H locs hls hP hS => k ls H locs (lv_sub hls ks' hl) hP hS
/-- branches -/
theorem V_ifeq (C : zC p s m args meth c cc nL own w L cl) {a off : Int} (tgt : Nat) (hd : decode cc pc = .ok (.ifCond .eq off, 3)) (ht : (pc : Int) + off = (tgt : Int)) (ha : rI a) (kt : a = 0 → V p l e R s m args below meth c nL w L cl kc ks Q tgt lv st σ) (kf : a ≠ 0 → V p l e R s m args below meth c nL w L cl kc ks Q (pc + 3) lv st σ) : V p l e R s m args below meth c nL w L cl kc ks Q pc lv (.int (zI a) :: st) σ :=
  fun ls H locs hl hP hS => lv_if_eq C.1 C.2.1 hd ht (fun h => kt ((zI_eq (b := 0) ha rI_0).mp h) ls H locs hl hP hS) (fun h => kf (fun z => h ((zI_eq (b := 0) ha rI_0).mpr z)) ls H locs hl hP hS)
theorem V_cmpeq (C : zC p s m args meth c cc nL own w L cl) {a b off : Int} (tgt : Nat) (hd : decode cc pc = .ok (.if_icmp .eq off, 3)) (ht : (pc : Int) + off = (tgt : Int)) (ha : rI a) (hb : rI b) (kt : a = b → V p l e R s m args below meth c nL w L cl kc ks Q tgt lv st σ) (kf : a ≠ b → V p l e R s m args below meth c nL w L cl kc ks Q (pc + 3) lv st σ) : V p l e R s m args below meth c nL w L cl kc ks Q pc lv (.int (zI b) :: .int (zI a) :: st) σ :=
  fun ls H locs hl hP hS => lv_icmp_eq C.1 C.2.1 hd ht (fun h => kt ((zI_eq ha hb).mp h) ls H locs hl hP hS) (fun h => kf (fun z => h ((zI_eq ha hb).mpr z)) ls H locs hl hP hS)
theorem V_ifne (C : zC p s m args meth c cc nL own w L cl) {a off : Int} (tgt : Nat) (hd : decode cc pc = .ok (.ifCond .ne off, 3)) (ht : (pc : Int) + off = (tgt : Int)) (ha : rI a) (kt : a ≠ 0 → V p l e R s m args below meth c nL w L cl kc ks Q tgt lv st σ) (kf : a = 0 → V p l e R s m args below meth c nL w L cl kc ks Q (pc + 3) lv st σ) : V p l e R s m args below meth c nL w L cl kc ks Q pc lv (.int (zI a) :: st) σ :=
  fun ls H locs hl hP hS => lv_if_ne C.1 C.2.1 hd ht (fun h => kt (fun z => h ((zI_eq (b := 0) ha rI_0).mpr z)) ls H locs hl hP hS) (fun h => kf ((zI_eq (b := 0) ha rI_0).mp h) ls H locs hl hP hS)
theorem V_cmpne (C : zC p s m args meth c cc nL own w L cl) {a b off : Int} (tgt : Nat) (hd : decode cc pc = .ok (.if_icmp .ne off, 3)) (ht : (pc : Int) + off = (tgt : Int)) (ha : rI a) (hb : rI b) (kt : a ≠ b → V p l e R s m args below meth c nL w L cl kc ks Q tgt lv st σ) (kf : a = b → V p l e R s m args below meth c nL w L cl kc ks Q (pc + 3) lv st σ) : V p l e R s m args below meth c nL w L cl kc ks Q pc lv (.int (zI b) :: .int (zI a) :: st) σ :=
  fun ls H locs hl hP hS => lv_icmp_ne C.1 C.2.1 hd ht (fun h => kt (fun z => h ((zI_eq ha hb).mpr z)) ls H locs hl hP hS) (fun h => kf ((zI_eq ha hb).mp h) ls H locs hl hP hS)
theorem V_iflt (C : zC p s m args meth c cc nL own w L cl) {a off : Int} (tgt : Nat) (hd : decode cc pc = .ok (.ifCond .lt off, 3)) (ht : (pc : Int) + off = (tgt : Int)) (ha : rI a) (kt : a < 0 → V p l e R s m args below meth c nL w L cl kc ks Q tgt lv st σ) (kf : 0 ≤ a → V p l e R s m args below meth c nL w L cl kc ks Q (pc + 3) lv st σ) : V p l e R s m args below meth c nL w L cl kc ks Q pc lv (.int (zI a) :: st) σ :=
  fun ls H locs hl hP hS => lv_if_lt C.1 C.2.1 hd ht (fun h => kt ((zI_lt (b := 0) ha rI_0).mp h) ls H locs hl hP hS) (fun h => kf (Int.not_lt.mp (fun z => h ((zI_lt (b := 0) ha rI_0).mpr z))) ls H locs hl hP hS)
theorem V_cmplt (C : zC p s m args meth c cc nL own w L cl) {a b off : Int} (tgt : Nat) (hd : decode cc pc = .ok (.if_icmp .lt off, 3)) (ht : (pc : Int) + off = (tgt : Int)) (ha : rI a) (hb : rI b) (kt : a < b → V p l e R s m args below meth c nL w L cl kc ks Q tgt lv st σ) (kf : b ≤ a → V p l e R s m args below meth c nL w L cl kc ks Q (pc + 3) lv st σ) : V p l e R s m args below meth c nL w L cl kc ks Q pc lv (.int (zI b) :: .int (zI a) :: st) σ :=
  fun ls H locs hl hP hS => lv_icmp_lt C.1 C.2.1 hd ht (fun h => kt ((zI_lt ha hb).mp h) ls H locs hl hP hS) (fun h => kf (Int.not_lt.mp (fun z => h ((zI_lt ha hb).mpr z))) ls H locs hl hP hS)
theorem V_ifge (C : zC p s m args meth c cc nL own w L cl) {a off : Int} (tgt : Nat) (hd : decode cc pc = .ok (.ifCond .ge off, 3)) (ht : (pc : Int) + off = (tgt : Int)) (ha : rI a) (kt : 0 ≤ a → V p l e R s m args below meth c nL w L cl kc ks Q tgt lv st σ) (kf : a < 0 → V p l e R s m args below meth c nL w L cl kc ks Q (pc + 3) lv st σ) : V p l e R s m args below meth c nL w L cl kc ks Q pc lv (.int (zI a) :: st) σ :=
  fun ls H locs hl hP hS => lv_if_ge C.1 C.2.1 hd ht (fun h => kt ((zI_le (a := 0) (b := a) rI_0 ha).mp h) ls H locs hl hP hS) (fun h => kf (Int.not_le.mp (fun z => h ((zI_le (a := 0) (b := a) rI_0 ha).mpr z))) ls H locs hl hP hS)
theorem V_cmpge (C : zC p s m args meth c cc nL own w L cl) {a b off : Int} (tgt : Nat) (hd : decode cc pc = .ok (.if_icmp .ge off, 3)) (ht : (pc : Int) + off = (tgt : Int)) (ha : rI a) (hb : rI b) (kt : b ≤ a → V p l e R s m args below meth c nL w L cl kc ks Q tgt lv st σ) (kf : a < b → V p l e R s m args below meth c nL w L cl kc ks Q (pc + 3) lv st σ) : V p l e R s m args below meth c nL w L cl kc ks Q pc lv (.int (zI b) :: .int (zI a) :: st) σ :=
  fun ls H locs hl hP hS => lv_icmp_ge C.1 C.2.1 hd ht (fun h => kt ((zI_le hb ha).mp h) ls H locs hl hP hS) (fun h => kf (Int.not_le.mp (fun z => h ((zI_le hb ha).mpr z))) ls H locs hl hP hS)
theorem V_ifgt (C : zC p s m args meth c cc nL own w L cl) {a off : Int} (tgt : Nat) (hd : decode cc pc = .ok (.ifCond .gt off, 3)) (ht : (pc : Int) + off = (tgt : Int)) (ha : rI a) (kt : 0 < a → V p l e R s m args below meth c nL w L cl kc ks Q tgt lv st σ) (kf : a ≤ 0 → V p l e R s m args below meth c nL w L cl kc ks Q (pc + 3) lv st σ) : V p l e R s m args below meth c nL w L cl kc ks Q pc lv (.int (zI a) :: st) σ :=
  fun ls H locs hl hP hS => lv_if_gt C.1 C.2.1 hd ht (fun h => kt ((zI_lt (a := 0) (b := a) rI_0 ha).mp h) ls H locs hl hP hS) (fun h => kf (Int.not_lt.mp (fun z => h ((zI_lt (a := 0) (b := a) rI_0 ha).mpr z))) ls H locs hl hP hS)
theorem V_cmpgt (C : zC p s m args meth c cc nL own w L cl) {a b off : Int} (tgt : Nat) (hd : decode cc pc = .ok (.if_icmp .gt off, 3)) (ht : (pc : Int) + off = (tgt : Int)) (ha : rI a) (hb : rI b) (kt : b < a → V p l e R s m args below meth c nL w L cl kc ks Q tgt lv st σ) (kf : a ≤ b → V p l e R s m args below meth c nL w L cl kc ks Q (pc + 3) lv st σ) : V p l e R s m args below meth c nL w L cl kc ks Q pc lv (.int (zI b) :: .int (zI a) :: st) σ :=
  fun ls H locs hl hP hS => lv_icmp_gt C.1 C.2.1 hd ht (fun h => kt ((zI_lt hb ha).mp h) ls H locs hl hP hS) (fun h => kf (Int.not_lt.mp (fun z => h ((zI_lt hb ha).mpr z))) ls H locs hl hP hS)
theorem V_ifle (C : zC p s m args meth c cc nL own w L cl) {a off : Int} (tgt : Nat) (hd : decode cc pc = .ok (.ifCond .le off, 3)) (ht : (pc : Int) + off = (tgt : Int)) (ha : rI a) (kt : a ≤ 0 → V p l e R s m args below meth c nL w L cl kc ks Q tgt lv st σ) (kf : 0 < a → V p l e R s m args below meth c nL w L cl kc ks Q (pc + 3) lv st σ) : V p l e R s m args below meth c nL w L cl kc ks Q pc lv (.int (zI a) :: st) σ :=
  fun ls H locs hl hP hS => lv_if_le C.1 C.2.1 hd ht (fun h => kt ((zI_le (b := 0) ha rI_0).mp h) ls H locs hl hP hS) (fun h => kf (Int.not_le.mp (fun z => h ((zI_le (b := 0) ha rI_0).mpr z))) ls H locs hl hP hS)
theorem V_cmple (C : zC p s m args meth c cc nL own w L cl) {a b off : Int} (tgt : Nat) (hd : decode cc pc = .ok (.if_icmp .le off, 3)) (ht : (pc : Int) + off = (tgt : Int)) (ha : rI a) (hb : rI b) (kt : a ≤ b → V p l e R s m args below meth c nL w L cl kc ks Q tgt lv st σ) (kf : b < a → V p l e R s m args below meth c nL w L cl kc ks Q (pc + 3) lv st σ) : V p l e R s m args below meth c nL w L cl kc ks Q pc lv (.int (zI b) :: .int (zI a) :: st) σ :=
  fun ls H locs hl hP hS => lv_icmp_le C.1 C.2.1 hd ht (fun h => kt ((zI_le ha hb).mp h) ls H locs hl hP hS) (fun h => kf (Int.not_le.mp (fun z => h ((zI_le ha hb).mpr z))) ls H locs hl hP hS)
/-- a truth value on top -/
def zB (P : Prop) [Decidable P] : Int := if P then 1 else 0
theorem rI_zB {P : Prop} [Decidable P] : rI (zB P) := by unfold zB; split; exact rI_1; exact rI_0
theorem zB_0 {P : Prop} [Decidable P] : zB P = 0 ↔ ¬ P := by unfold zB; split <;> simp_all
theorem V_ifeqB (C : zC p s m args meth c cc nL own w L cl) {off : Int} {P : Prop} [Decidable P] (tgt : Nat) (hd : decode cc pc = .ok (.ifCond .eq off, 3)) (ht : (pc : Int) + off = (tgt : Int)) (kt : ¬ P → V p l e R s m args below meth c nL w L cl kc ks Q tgt lv st σ) (kf : P → V p l e R s m args below meth c nL w L cl kc ks Q (pc + 3) lv st σ) : V p l e R s m args below meth c nL w L cl kc ks Q pc lv (.int (zI (zB P)) :: st) σ :=
  V_ifeq C tgt hd ht rI_zB (fun h => kt (zB_0.mp h)) (fun h => kf (Decidable.byContradiction fun z => h (zB_0.mpr z)))
theorem V_ifneB (C : zC p s m args meth c cc nL own w L cl) {off : Int} {P : Prop} [Decidable P] (tgt : Nat) (hd : decode cc pc = .ok (.ifCond .ne off, 3)) (ht : (pc : Int) + off = (tgt : Int)) (kt : P → V p l e R s m args below meth c nL w L cl kc ks Q tgt lv st σ) (kf : ¬ P → V p l e R s m args below meth c nL w L cl kc ks Q (pc + 3) lv st σ) : V p l e R s m args below meth c nL w L cl kc ks Q pc lv (.int (zI (zB P)) :: st) σ :=
  V_ifne C tgt hd ht rI_zB (fun h => kt (Decidable.byContradiction fun z => h (zB_0.mpr z))) (fun h => kf (zB_0.mp h))
/-- lcmp, and the branch behind it -/
theorem V_lcmp (C : zC p s m args meth c cc nL own w L cl) {a b : Int} (hd : decode cc pc = .ok (.lcmp, 1)) (ha : rL a) (hb : rL b) (k : V p l e R s m args below meth c nL w L cl kc ks Q (pc + 1) lv (.int (zI (if b < a then 1 else if a = b then 0 else -1)) :: st) σ) : V p l e R s m args below meth c nL w L cl kc ks Q pc lv (.long (zL b) :: .long (zL a) :: st) σ :=
  fun ls H locs hl hP hS => W.lcmp C.1 C.2.1 hd (by
    have e : lg_cmp (zL a) (zL b) = zI (if b < a then 1 else if a = b then 0 else -1) := by
      unfold lg_cmp
      by_cases h1 : b < a
      · rw [if_pos h1, if_pos ((zL_lt hb ha).mpr h1)]; rfl
      · rw [if_neg h1, if_neg (fun z => h1 ((zL_lt hb ha).mp z))]
        by_cases h2 : a = b
        · rw [if_pos h2, if_pos ((zL_eq ha hb).mpr h2)]; rfl
        · rw [if_neg h2, if_neg (fun z => h2 ((zL_eq ha hb).mp z))]; rfl
    rw [e]; exact k ls H locs hl hP hS)
/-- arrays -/
theorem V_iald (C : zC p s m args meth c cc nL own w L cl) (k i : Nat) (hk : k < L.1) {n : Nat} {fs : List (Nat × Nat)} (hd0 : L.2.1 k = (0, n, fs)) {z : Int} (hz : z = (i : Int)) (hi : i < n) (hn : n < 2 ^ 31) (hd : decode cc pc = .ok (.iaload, 1)) (kk : V p l e R s m args below meth c nL w L cl kc ks Q (pc + 1) lv (.int (zI (σ k i)) :: st) σ) : V p l e R s m args below meth c nL w L cl kc ks Q pc lv (.int (zI z) :: .ref (w.1 k) :: st) σ := by
  intro ls H locs hl hP hS
  subst hz
  refine va_iald C.1 C.2.1 C.2.2.2.2.2.1 hP k 0 (cA := (w.2.2 0)) (n := n) (f := fun j => zI (σ k j)) (by rw [zX_get hk, hd0]; rfl) rfl (zI_in hi hn) hd ?_
  rw [zI_cl (Nat.lt_trans hi hn)]
  exact kk ls H locs hl hP hS
theorem V_lald (C : zC p s m args meth c cc nL own w L cl) (k i : Nat) (hk : k < L.1) {n : Nat} {fs : List (Nat × Nat)} (hd0 : L.2.1 k = (1, n, fs)) {z : Int} (hz : z = (i : Int)) (hi : i < n) (hn : n < 2 ^ 31) (hd : decode cc pc = .ok (.laload, 1)) (kk : V p l e R s m args below meth c nL w L cl kc ks Q (pc + 1) lv (.long (zL (σ k i)) :: st) σ) : V p l e R s m args below meth c nL w L cl kc ks Q pc lv (.int (zI z) :: .ref (w.1 k) :: st) σ := by
  intro ls H locs hl hP hS
  subst hz
  refine va_lald C.1 C.2.1 C.2.2.2.2.2.1 hP k 1 (cA := (w.2.2 1)) (n := n) (f := fun j => zL (σ k j)) (by rw [zX_get hk, hd0]; rfl) rfl (zI_in hi hn) hd ?_
  rw [zI_cl (Nat.lt_trans hi hn)]
  exact kk ls H locs hl hP hS
theorem V_iast (C : zC p s m args meth c cc nL own w L cl) (k i : Nat) (hk : k < L.1) {n : Nat} {fs : List (Nat × Nat)} (hd0 : L.2.1 k = (0, n, fs)) {z v : Int} (hz : z = (i : Int)) (hi : i < n) (hn : n < 2 ^ 31) (hd : decode cc pc = .ok (.iastore, 1)) (kk : V p l e R s m args below meth c nL w L cl kc ks Q (pc + 1) lv st (zU σ k i v)) : V p l e R s m args below meth c nL w L cl kc ks Q pc lv (.int (zI v) :: .int (zI z) :: .ref (w.1 k) :: st) σ := by
  intro ls H locs hl hP hS
  subst hz
  refine va_iast C.1 C.2.1 C.2.2.2.2.2.1 hP (zX_D C.2.2.2.2.2.2.1) hS k 0 (cA := (w.2.2 0)) (n := n) (f := fun j => zI (σ k j)) (by rw [zX_get hk, hd0]; rfl) rfl (zI_in hi hn) hd (fun H1 locs1 hP1 _ hS1 => ?_)
  rw [zI_cl (Nat.lt_trans hi hn)] at hP1
  rw [zX_set (σ' := zU σ k i v) (by
    rw [hd0]; show Sum.inl _ = Sum.inl _; congr 3; refine congrArg Sum.inl ?_; funext j; unfold upd zU; by_cases h : j = i <;> simp [h]) (fun k' h => zU_ne h)] at hP1
  exact kk ls H1 locs1 hl hP1 hS1
theorem V_last (C : zC p s m args meth c cc nL own w L cl) (k i : Nat) (hk : k < L.1) {n : Nat} {fs : List (Nat × Nat)} (hd0 : L.2.1 k = (1, n, fs)) {z v : Int} (hz : z = (i : Int)) (hi : i < n) (hn : n < 2 ^ 31) (hd : decode cc pc = .ok (.lastore, 1)) (kk : V p l e R s m args below meth c nL w L cl kc ks Q (pc + 1) lv st (zU σ k i v)) : V p l e R s m args below meth c nL w L cl kc ks Q pc lv (.long (zL v) :: .int (zI z) :: .ref (w.1 k) :: st) σ := by
  intro ls H locs hl hP hS
  subst hz
  refine va_last C.1 C.2.1 C.2.2.2.2.2.1 hP (zX_D C.2.2.2.2.2.2.1) hS k 1 (cA := (w.2.2 1)) (n := n) (f := fun j => zL (σ k j)) (by rw [zX_get hk, hd0]; rfl) rfl (zI_in hi hn) hd (fun H1 locs1 hP1 _ hS1 => ?_)
  rw [zI_cl (Nat.lt_trans hi hn)] at hP1
  rw [zX_set (σ' := zU σ k i v) (by
    rw [hd0]; show Sum.inl _ = Sum.inl _; congr 4; refine congrArg Sum.inl ?_; funext j; unfold vp_updL zU; by_cases h : j = i <;> simp [h]) (fun k' h => zU_ne h)] at hP1
  exact kk ls H1 locs1 hl hP1 hS1
theorem V_zald (C : zC p s m args meth c cc nL own w L cl) (k i : Nat) (hk : k < L.1) {n : Nat} {fs : List (Nat × Nat)} (hd0 : L.2.1 k = (2, n, fs)) {z : Int} (hz : z = (i : Int)) (hi : i < n) (hn : n < 2 ^ 31) (hd : decode cc pc = .ok (.baload, 1)) (kk : V p l e R s m args below meth c nL w L cl kc ks Q (pc + 1) lv (.int (zI (σ k i)) :: st) σ) : V p l e R s m args below meth c nL w L cl kc ks Q pc lv (.int (zI z) :: .ref (w.1 k) :: st) σ := by
  intro ls H locs hl hP hS
  subst hz
  refine va_zald C.1 C.2.1 C.2.2.2.2.2.1 hP k 2 (cA := w.2.2 2) (n := n) (f := fun j => zI (σ k j)) (by rw [zX_get hk, hd0]; rfl) rfl (zI_in hi hn) hd ?_
  rw [zI_cl (Nat.lt_trans hi hn)]
  exact kk ls H locs hl hP hS
theorem V_zast (C : zC p s m args meth c cc nL own w L cl) (k i : Nat) (hk : k < L.1) {n : Nat} {fs : List (Nat × Nat)} (hd0 : L.2.1 k = (2, n, fs)) {z v : Int} (hz : z = (i : Int)) (hv : v = 0 ∨ v = 1) (hi : i < n) (hn : n < 2 ^ 31) (hd : decode cc pc = .ok (.bastore, 1)) (kk : V p l e R s m args below meth c nL w L cl kc ks Q (pc + 1) lv st (zU σ k i v)) : V p l e R s m args below meth c nL w L cl kc ks Q pc lv (.int (zI v) :: .int (zI z) :: .ref (w.1 k) :: st) σ := by
  intro ls H locs hl hP hS
  subst hz
  have hnar : vp_nar .boolean (zI v) = zI v := by rcases hv with rfl | rfl <;> decide
  refine va_zast C.1 C.2.1 C.2.2.2.2.2.1 hP (zX_D C.2.2.2.2.2.2.1) hS k 2 (cA := w.2.2 2) (n := n) (f := fun j => zI (σ k j)) (by rw [zX_get hk, hd0]; rfl) rfl (zI_in hi hn) hd (fun H1 locs1 hP1 _ hS1 => ?_)
  rw [zI_cl (Nat.lt_trans hi hn), hnar] at hP1
  rw [zX_set (σ' := zU σ k i v) (by
    rw [hd0]; show Sum.inl _ = Sum.inl _; congr 3; refine congrArg Sum.inl ?_; funext j; unfold upd zU; by_cases h : j = i <;> simp [h]) (fun k' h => zU_ne h)] at hP1
  exact kk ls H1 locs1 hl hP1 hS1
theorem V_alen (C : zC p s m args meth c cc nL own w L cl) (k : Nat) (hk : k < L.1) {n : Nat} {fs : List (Nat × Nat)} (hd0 : L.2.1 k = (0, n, fs)) (hd : decode cc pc = .ok (.arraylength, 1)) (kk : V p l e R s m args below meth c nL w L cl kc ks Q (pc + 1) lv (.int (zI (n : Int)) :: st) σ) : V p l e R s m args below meth c nL w L cl kc ks Q pc lv (.ref (w.1 k) :: st) σ := by
  intro ls H locs hl hP hS
  exact va_alen C.1 C.2.1 C.2.2.2.2.2.1 hP k 0 (cA := w.2.2 0) (x := (n, .inl (fun j => zI (σ k j)))) (by rw [zX_get hk, hd0]; rfl) (ty := .int) rfl (zI_nat n).symm hd (kk ls H locs hl hP hS)
/-- fields -/
theorem zF_at {q : Nat → Nat} {f : Nat → Int} {fs : List (Nat × Nat)} {j : Nat} {t : Nat × Nat} (h : fs[j]? = some t) : (fs.mapIdx (zF q f))[j]? = some (zF q f j t) := by
  rw [List.getElem?_mapIdx, h]; rfl
theorem zF_set {q : Nat → Nat} {f f' : Nat → Int} {fs : List (Nat × Nat)} {j : Nat} {t : Nat × Nat} {v : Value} (h : fs[j]? = some t) (hv : v = zF q f' j t) (hne : ∀ i, i ≠ j → f' i = f i) : (fs.mapIdx (zF q f)).set j v = fs.mapIdx (zF q f') := by
  subst hv
  have hl : j < fs.length := (List.getElem?_eq_some_iff.mp h).1
  apply List.ext_getElem?
  intro i
  by_cases hij : i = j
  · subst hij
    rw [List.getElem?_set_self (by simpa using hl), zF_at h]
  · rw [List.getElem?_set_ne (Ne.symm hij), List.getElem?_mapIdx, List.getElem?_mapIdx]
    cases fs[i]? with
    | none => rfl
    | some u =>
      show some (zF q f i u) = some (zF q f' i u)
      unfold zF
      rw [hne i hij]
theorem V_get (C : zC p s m args meth c cc nL own w L cl) (k j : Nat) (hk : k < L.1) {ci n : Nat} {fs : List (Nat × Nat)} (hd0 : L.2.1 k = (ci + 3, n, fs)) {Cn : String} {T : u_T} {N : Nat} (hc : cl[ci]? = some (Cn, T, N)) (hin : ∀ x ∈ u_ws Cn T N, x ∈ zT) (hj : j < N) {t : Nat × Nat} (ht : fs[j]? = some t) {ix : Nat} (hlk : Cond.fieldLink own ix (T j).1 (T j).2.1 (T j).2.2.1 ∈ zT) (hd : decode cc pc = .ok (.getfield ix, 3)) (kk : V p l e R s m args below meth c nL w L cl kc ks Q (pc + 3) lv (zF w.1 (σ k) j t :: st) σ) : V p l e R s m args below meth c nL w L cl kc ks Q pc lv (.ref (w.1 k) :: st) σ := by
  intro ls H locs hl hP hS
  exact va_get (fs := fs.mapIdx (zF w.1 (σ k))) C.1 C.2.1 C.2.2.2.2.1 hin C.2.2.2.1 C.2.2.2.2.2.1 hP k (by rw [zX_get hk, hd0]; rfl) hc j hj (C.2.2.2.2.1 _ hlk) (fun _ h9 => h9) (zF_at ht) hd (kk ls H locs hl hP hS)
theorem V_geti (C : zC p s m args meth c cc nL own w L cl) (k j : Nat) (hk : k < L.1) {ci n r : Nat} {fs : List (Nat × Nat)} (hd0 : L.2.1 k = (ci + 3, n, fs)) {Cn : String} {T : u_T} {N : Nat} (hc : cl[ci]? = some (Cn, T, N)) (hin : ∀ x ∈ u_ws Cn T N, x ∈ zT) (hj : j < N) (ht : fs[j]? = some (0, r)) {ix : Nat} (hlk : Cond.fieldLink own ix (T j).1 (T j).2.1 (T j).2.2.1 ∈ zT) (hd : decode cc pc = .ok (.getfield ix, 3)) (kk : V p l e R s m args below meth c nL w L cl kc ks Q (pc + 3) lv (.int (zI (σ k j)) :: st) σ) : V p l e R s m args below meth c nL w L cl kc ks Q pc lv (.ref (w.1 k) :: st) σ :=
  V_get C k j hk hd0 hc hin hj ht hlk hd kk
theorem V_getl (C : zC p s m args meth c cc nL own w L cl) (k j : Nat) (hk : k < L.1) {ci n r : Nat} {fs : List (Nat × Nat)} (hd0 : L.2.1 k = (ci + 3, n, fs)) {Cn : String} {T : u_T} {N : Nat} (hc : cl[ci]? = some (Cn, T, N)) (hin : ∀ x ∈ u_ws Cn T N, x ∈ zT) (hj : j < N) (ht : fs[j]? = some (1, r)) {ix : Nat} (hlk : Cond.fieldLink own ix (T j).1 (T j).2.1 (T j).2.2.1 ∈ zT) (hd : decode cc pc = .ok (.getfield ix, 3)) (kk : V p l e R s m args below meth c nL w L cl kc ks Q (pc + 3) lv (.long (zL (σ k j)) :: st) σ) : V p l e R s m args below meth c nL w L cl kc ks Q pc lv (.ref (w.1 k) :: st) σ :=
  V_get C k j hk hd0 hc hin hj ht hlk hd kk
theorem V_getr (C : zC p s m args meth c cc nL own w L cl) (k j r : Nat) (hk : k < L.1) {ci n : Nat} {fs : List (Nat × Nat)} (hd0 : L.2.1 k = (ci + 3, n, fs)) {Cn : String} {T : u_T} {N : Nat} (hc : cl[ci]? = some (Cn, T, N)) (hin : ∀ x ∈ u_ws Cn T N, x ∈ zT) (hj : j < N) (ht : fs[j]? = some (2, r)) {ix : Nat} (hlk : Cond.fieldLink own ix (T j).1 (T j).2.1 (T j).2.2.1 ∈ zT) (hd : decode cc pc = .ok (.getfield ix, 3)) (kk : V p l e R s m args below meth c nL w L cl kc ks Q (pc + 3) lv (.ref (w.1 r) :: st) σ) : V p l e R s m args below meth c nL w L cl kc ks Q pc lv (.ref (w.1 k) :: st) σ :=
  V_get C k j hk hd0 hc hin hj ht hlk hd kk
theorem V_put (C : zC p s m args meth c cc nL own w L cl) (k j : Nat) (hk : k < L.1) {ci n : Nat} {fs : List (Nat × Nat)} (hd0 : L.2.1 k = (ci + 3, n, fs)) {Cn : String} {T : u_T} {N : Nat} (hc : cl[ci]? = some (Cn, T, N)) (hin : ∀ x ∈ u_ws Cn T N, x ∈ zT) (ty0 : Nat → FieldType) (hty : ∀ k, k < N → parseFieldDescriptor (T k).2.2.1 = some (ty0 k)) (hnm : ∀ a, a < N → ∀ b, b < N → a ≠ b → (T a).2.1 ≠ (T b).2.1) (hj : j < N) {t : Nat × Nat} (ht : fs[j]? = some t) {ix : Nat} (hlk : Cond.fieldLink own ix (T j).1 (T j).2.1 (T j).2.2.1 ∈ zT) (hfin : (T j).2.2.2 = false) {v : Value} {z : Int} (hv : v = zF w.1 (fun _ => z) j t) (hn : narrow (ty0 j) v = v) (hfit : fits (ty0 j) v = true) (hd : decode cc pc = .ok (.putfield ix, 3)) (kk : V p l e R s m args below meth c nL w L cl kc ks Q (pc + 3) lv st (zU σ k j z)) : V p l e R s m args below meth c nL w L cl kc ks Q pc lv (v :: .ref (w.1 k) :: st) σ := by
  intro ls H locs hl hP hS
  refine va_put (fs := fs.mapIdx (zF w.1 (σ k))) C.1 C.2.1 C.2.2.2.2.1 hin ty0 hty hnm C.2.2.2.1 C.2.2.2.2.2.1 hP (zX_D C.2.2.2.2.2.2.1) hS k (by rw [zX_get hk, hd0]; rfl) hc j hj (C.2.2.2.2.1 _ hlk) (fun _ h9 => h9) hfin (hty j hj) hn hfit (by simpa using (List.getElem?_eq_some_iff.mp ht).1) hd (fun H1 locs1 hP1 _ hS1 => ?_)
  rw [zX_set (σ' := zU σ k j z) (by
    rw [hd0]; show Sum.inr _ = Sum.inr _; congr 2
    exact zF_set ht (by rw [hv]; unfold zF; simp [zU]) (fun i h => zU_nj h)) (fun k' h => zU_ne h)] at hP1
  exact kk ls H1 locs1 hl hP1 hS1
/-! CONTRACTS: any heap that holds the store σ; the answer is this number; the heap holds the store σ2; nothing else changed -/
def zPre (w : zW) (L : zY) (cl : List vw_C) (σ : Nat → Nat → Int) (sz : Nat) : State → Prop := fun U => U.heap.size = sz ∧ va_P w.2.1 cl (zX w L σ) U.heap ∧ va_K w.2.1 cl [(w.2.2 0, .int), (w.2.2 1, .long), (w.2.2 2, .boolean)] U ∧ zN w L.1 ∧ zK L U
def zPost (w : zW) (L : zY) (cl : List vw_C) : (Nat → Nat → Int) → State → Prop := fun u t => va_P w.2.1 cl (zX w L u) t.heap
def zQi (w : zW) (L : zY) (cl : List vw_C) (z : Int) (σ2 : Nat → Nat → Int) (sz : Nat) : Array Value → State → Outcome → State → Prop := va_Qi (fun r u => r = zI z ∧ u = σ2) (zPost w L cl) (zA w L.1 sz)
def zQl (w : zW) (L : zY) (cl : List vw_C) (z : Int) (σ2 : Nat → Nat → Int) (sz : Nat) : Array Value → State → Outcome → State → Prop := va_Ql (fun r u => r = zL z ∧ u = σ2) (zPost w L cl) (zA w L.1 sz)
def zQv (w : zW) (L : zY) (cl : List vw_C) (σ2 : Nat → Nat → Int) (sz : Nat) : Array Value → State → Outcome → State → Prop := va_Qv (fun u => u = σ2) (zPost w L cl) (zA w L.1 sz)
/-- a method: its name, its code, its locals, what it answers -/
abbrev zG : Type := MethodName × ByteArray × Nat × Option FieldType
def zc (g : zG) : Cond := .code g.1 g.2.1 g.2.2.1 g.2.2.2
def zMi (l : Launch) (w : zW) (L : zY) (cl : List vw_C) (g : zG) (rm : Room) (av : List Value) (σ : Nat → Nat → Int) (z : Int) (σ2 : Nat → Nat → Int) : Prop := ∀ sz, Met l g.1 (zc g :: zT) rm (va_Pc av (zPre w L cl σ sz)) (zQi w L cl z σ2 sz) 0 0 (zA w L.1 sz)
def zMl (l : Launch) (w : zW) (L : zY) (cl : List vw_C) (g : zG) (rm : Room) (av : List Value) (σ : Nat → Nat → Int) (z : Int) (σ2 : Nat → Nat → Int) : Prop := ∀ sz, Met l g.1 (zc g :: zT) rm (va_Pc av (zPre w L cl σ sz)) (zQl w L cl z σ2 sz) 0 0 (zA w L.1 sz)
def zMv (l : Launch) (w : zW) (L : zY) (cl : List vw_C) (g : zG) (rm : Room) (av : List Value) (σ : Nat → Nat → Int) (σ2 : Nat → Nat → Int) : Prop := ∀ sz, Met l g.1 (zc g :: zT) rm (va_Pc av (zPre w L cl σ sz)) (zQv w L cl σ2 sz) 0 0 (zA w L.1 sz)
theorem zMi.of (g : zG) {rm : Room} {av : List Value} {z : Int} {σ2 : Nat → Nat → Int} (hy : plainName g.1.cls = true) (hav : (lg_sl av).length ≤ g.2.2.1) (hlv : lv_args 0 av = lv)
    (body : ∀ (p : Program) (e : Env) (s : State) (m : MethodId) (args : Array Value) (below : List Frame) (meth : Method) (c : Code), zC p s m args meth c g.2.1 g.2.2.1 g.1.cls w L cl → meth.sig.returnType = g.2.2.2 → V p l e rm s m args below meth c g.2.2.1 w L cl 0 0 (MQ below (zQi w L cl z σ2 s.heap.size) args s 0 0 (zA w L.1 s.heap.size)) 0 lv [] σ) : zMi l w L cl g rm av σ z σ2 := by
  intro sz
  refine Met.ofW (cc := g.2.1) (maxL := g.2.2.1) (ret := g.2.2.2) hy rfl ?_
  intro p e s m args below meth c s₁ B hml hv
  obtain ⟨rfl, rfl, hP, hK, hN, hZ⟩ := hv
  have hb := body p e s m _ below meth c ⟨B.exec, B.bytes, hml, findClass_of_methodNamed B.named, fun x hx => atoms_spec (ws := zc g :: zT) B.pre x (List.mem_cons_of_mem _ hx), hK, hN, B.notSynchronized, hZ⟩ B.returns
  rw [lg_entry_eq]
  subst hlv
  exact hb _ _ _ (lv_entry av hav) hP va_S.rf
theorem zMl.of (g : zG) {rm : Room} {av : List Value} {z : Int} {σ2 : Nat → Nat → Int} (hy : plainName g.1.cls = true) (hav : (lg_sl av).length ≤ g.2.2.1) (hlv : lv_args 0 av = lv)
    (body : ∀ (p : Program) (e : Env) (s : State) (m : MethodId) (args : Array Value) (below : List Frame) (meth : Method) (c : Code), zC p s m args meth c g.2.1 g.2.2.1 g.1.cls w L cl → meth.sig.returnType = g.2.2.2 → V p l e rm s m args below meth c g.2.2.1 w L cl 0 0 (MQ below (zQl w L cl z σ2 s.heap.size) args s 0 0 (zA w L.1 s.heap.size)) 0 lv [] σ) : zMl l w L cl g rm av σ z σ2 := by
  intro sz
  refine Met.ofW (cc := g.2.1) (maxL := g.2.2.1) (ret := g.2.2.2) hy rfl ?_
  intro p e s m args below meth c s₁ B hml hv
  obtain ⟨rfl, rfl, hP, hK, hN, hZ⟩ := hv
  have hb := body p e s m _ below meth c ⟨B.exec, B.bytes, hml, findClass_of_methodNamed B.named, fun x hx => atoms_spec (ws := zc g :: zT) B.pre x (List.mem_cons_of_mem _ hx), hK, hN, B.notSynchronized, hZ⟩ B.returns
  rw [lg_entry_eq]
  subst hlv
  exact hb _ _ _ (lv_entry av hav) hP va_S.rf
theorem zMv.of (g : zG) {rm : Room} {av : List Value} {σ2 : Nat → Nat → Int} (hy : plainName g.1.cls = true) (hav : (lg_sl av).length ≤ g.2.2.1) (hlv : lv_args 0 av = lv)
    (body : ∀ (p : Program) (e : Env) (s : State) (m : MethodId) (args : Array Value) (below : List Frame) (meth : Method) (c : Code), zC p s m args meth c g.2.1 g.2.2.1 g.1.cls w L cl → meth.sig.returnType = g.2.2.2 → V p l e rm s m args below meth c g.2.2.1 w L cl 0 0 (MQ below (zQv w L cl σ2 s.heap.size) args s 0 0 (zA w L.1 s.heap.size)) 0 lv [] σ) : zMv l w L cl g rm av σ σ2 := by
  intro sz
  refine Met.ofW (cc := g.2.1) (maxL := g.2.2.1) (ret := g.2.2.2) hy rfl ?_
  intro p e s m args below meth c s₁ B hml hv
  obtain ⟨rfl, rfl, hP, hK, hN, hZ⟩ := hv
  have hb := body p e s m _ below meth c ⟨B.exec, B.bytes, hml, findClass_of_methodNamed B.named, fun x hx => atoms_spec (ws := zc g :: zT) B.pre x (List.mem_cons_of_mem _ hx), hK, hN, B.notSynchronized, hZ⟩ B.returns
  rw [lg_entry_eq]
  subst hlv
  exact hb _ _ _ (lv_entry av hav) hP va_S.rf
theorem V_iret (C : zC p s m args meth c cc nL own w L cl) {z0 z : Int} {σ2 : Nat → Nat → Int} (hr : meth.sig.returnType = some .int) (hd : decode cc pc = .ok (.ireturn, 1)) (hz : z0 = z) (hσ : σ = σ2) : V p l e R s m args below meth c nL w L cl 0 0 (MQ below (zQi w L cl z σ2 s.heap.size) args s 0 0 (zA w L.1 s.heap.size)) pc lv [.int (zI z0)] σ := by
  subst hz; subst hσ
  intro ls H locs hl hP hS
  exact W.iret C.1 C.2.1 hr (fun t ht hW => ⟨⟨_, _, rfl, ⟨rfl, rfl⟩, by unfold zPost; rw [ht]; exact hP⟩, hS.F ht⟩) hS.2.2 hd C.2.2.2.2.2.2.2.1
theorem zB_nar {P : Prop} [Decidable P] : narrow .boolean (.int (zI (zB P))) = .int (zI (zB P)) := by
  unfold zB; split <;> rfl
theorem V_zret (C : zC p s m args meth c cc nL own w L cl) {z0 z : Int} {σ2 : Nat → Nat → Int} (hr : meth.sig.returnType = some .boolean) (hd : decode cc pc = .ok (.ireturn, 1)) (h01 : z0 = 0 ∨ z0 = 1) (hz : z0 = z) (hσ : σ = σ2) : V p l e R s m args below meth c nL w L cl 0 0 (MQ below (zQi w L cl z σ2 s.heap.size) args s 0 0 (zA w L.1 s.heap.size)) pc lv [.int (zI z0)] σ := by
  have hn : narrow .boolean (.int (zI z0)) = .int (zI z0) := by rcases h01 with rfl | rfl <;> rfl
  subst hz; subst hσ
  intro ls H locs hl hP hS
  exact W.zret C.1 C.2.1 hr hn (fun t ht hW => ⟨⟨_, _, rfl, ⟨rfl, rfl⟩, by unfold zPost; rw [ht]; exact hP⟩, hS.F ht⟩) hS.2.2 hd C.2.2.2.2.2.2.2.1
theorem V_lret (C : zC p s m args meth c cc nL own w L cl) {z0 z : Int} {σ2 : Nat → Nat → Int} (hr : meth.sig.returnType = some .long) (hd : decode cc pc = .ok (.lreturn, 1)) (hz : z0 = z) (hσ : σ = σ2) : V p l e R s m args below meth c nL w L cl 0 0 (MQ below (zQl w L cl z σ2 s.heap.size) args s 0 0 (zA w L.1 s.heap.size)) pc lv [.long (zL z0)] σ := by
  subst hz; subst hσ
  intro ls H locs hl hP hS
  exact W.lret C.1 C.2.1 hr (fun t ht hW => ⟨⟨_, _, rfl, ⟨rfl, rfl⟩, by unfold zPost; rw [ht]; exact hP⟩, hS.F ht⟩) hS.2.2 hd C.2.2.2.2.2.2.2.1
theorem V_vret (C : zC p s m args meth c cc nL own w L cl) {σ2 : Nat → Nat → Int} (hr : meth.sig.returnType = none) (hd : decode cc pc = .ok (.return_, 1)) (hσ : σ = σ2) : V p l e R s m args below meth c nL w L cl 0 0 (MQ below (zQv w L cl σ2 s.heap.size) args s 0 0 (zA w L.1 s.heap.size)) pc lv [] σ := by
  subst hσ
  intro ls H locs hl hP hS
  exact W.vret C.1 C.2.1 hr (fun t ht hW => ⟨⟨_, rfl, rfl, by unfold zPost; rw [ht]; exact hP⟩, hS.F ht⟩) hS.2.2 hd C.2.2.2.2.2.2.2.1
/-- calls -/
theorem zK.moved {u U : State} (hW : u.WarmedH U.vm) (h : zK L u) : zK L U := fun q hq => va_Nw.warmM hW (h q hq)
theorem zBlind {av : List Value} {sz : Nat} : FrameBlind (va_Pc av (zPre w L cl σ sz)) := by
  intro a U g mk q
  obtain ⟨q0, q1, qP, qK, qN, qZ⟩ := q
  exact ⟨q0, q1, qP, va_K.moved (u := U) (U := U.calling g mk a) (Vm.Alike.refl U.vm) qK, qN, fun x hx => va_Nw.same rfl rfl (qZ x hx)⟩
theorem zPreS (C : zC p s m args meth c cc nL own w L cl) {H : Heap} (hP : va_P w.2.1 cl (zX w L σ) H) (av : List Value) : PreS s H (va_Pc av (zPre w L cl σ H.size)) av :=
  ⟨zBlind, fun U hU hW => ⟨rfl, by rw [hU], by rw [hU]; exact hP, va_K.moved hW.alike C.2.2.2.2.2.1, C.2.2.2.2.2.2.1, zK.moved hW C.2.2.2.2.2.2.2.2⟩⟩
theorem zPreV (C : zC p s m args meth c cc nL own w L cl) {H : Heap} (hP : va_P w.2.1 cl (zX w L σ) H) (As : List Value) (k : Nat) (hk : k < L.1) {ci n : Nat} {fs : List (Nat × Nat)} (hd0 : L.2.1 k = (ci + 3, n, fs)) {Cn : String} {T : u_T} {N : Nat} (hc : cl[ci]? = some (Cn, T, N)) : PreV s H Cn (w.1 k) (va_Pc (.ref (w.1 k) :: As) (zPre w L cl σ H.size)) As :=
  ⟨zBlind, va_recv C.2.2.2.2.2.1 hP (ci := ci) (q0 := k) (fs := fs.mapIdx (zF w.1 (σ k))) hc (by rw [zX_get hk, hd0]; rfl), fun U hU hW => ⟨rfl, by rw [hU], by rw [hU]; exact hP, va_K.moved hW.alike C.2.2.2.2.2.1, C.2.2.2.2.2.2.1, zK.moved hW C.2.2.2.2.2.2.2.2⟩⟩
theorem zT_good {x : Cond} (h : x ∈ zT) : x ∈ zT ∧ ((x.onTables && x.keeps) = true ∨ ∃ ty, x = .arrayClass ty) := ⟨h, good_of_word (List.mem_filter.mp h).2⟩
theorem zgV {own Cn : String} {ix : Nat} {g : zG} (h1 : Cond.methodLink own ix g.1 ∈ zT) (h2 : Cond.instanceMethod g.1 ∈ zT) (h3 : Cond.selects Cn g.1 g.1 ∈ zT) (h4 : Cond.initialized Cn ∈ zT) (h5 : zc g ∈ zT) : GoodIn zT (wsV own ix Cn g.1 (zc g :: zT)) := by
  intro x hx
  unfold wsV at hx
  simp only [List.cons_append, List.nil_append, List.mem_cons] at hx
  rcases hx with rfl | rfl | rfl | rfl | rfl | hx <;> exact zT_good (by assumption)
theorem zgS {own : String} {ix : Nat} {g : zG} (h1 : Cond.methodLink own ix g.1 ∈ zT) (h2 : Cond.static g.1 ∈ zT) (h3 : Cond.initialized own ∈ zT) (h5 : zc g ∈ zT) : GoodIn zT (wsS own ix g.1 (zc g :: zT)) := by
  intro x hx
  unfold wsS at hx
  simp only [List.cons_append, List.nil_append, List.mem_cons] at hx
  rcases hx with rfl | rfl | rfl | rfl | hx <;> exact zT_good (by assumption)
theorem zgJ {own : String} {ix : Nat} {g : zG} (h1 : Cond.methodLink own ix g.1 ∈ zT) (h2 : Cond.static g.1 ∈ zT) (h3 : Cond.initialized g.1.cls ∈ zT) (h5 : zc g ∈ zT) : GoodIn zT (va_wsS own ix g.1 (zc g :: zT)) := by
  intro x hx
  unfold va_wsS at hx
  simp only [List.cons_append, List.nil_append, List.mem_cons] at hx
  rcases hx with rfl | rfl | rfl | rfl | hx <;> exact zT_good (by assumption)
theorem zgN {g : zG} (h5 : zc g ∈ zT) : GoodIn zT (zc g :: zT) := by
  intro x hx
  simp only [List.mem_cons] at hx
  rcases hx with rfl | hx <;> exact zT_good (by assumption)
/-- what is plain of a method's name, its number of arguments -/
def zO (g : zG) (n : Nat) : Prop := g.1.cls ≠ "java/lang/invoke/MethodHandle" ∧ g.1.cls ≠ "java/lang/invoke/VarHandle" ∧ (parseMethodDescriptor g.1.desc).map (fun d => d.parameters.length) = some n
theorem V_runi {st0 rest : List Value} {a : Array Value} {z : Int} {σ2 : Nat → Nat → Int} (hr : ∀ (ls : Array Slot) (H : Heap) (locs : List Loc), ls.size = nL → va_P w.2.1 cl (zX w L σ) H → va_Run p l e R s m args below meth c H locs kc ks 0 0 (F0 m pc ls st0) rest (zQi w L cl z σ2 H.size a) (zA w L.1 H.size)) (kk : V p l e R s m args below meth c nL w L cl kc ks Q (pc + 3) lv (.int (zI z) :: rest) σ2) : V p l e R s m args below meth c nL w L cl kc ks Q pc lv st0 σ := by
  intro ls H locs hl hP hS
  refine va_calli (hr ls H locs hl.1 hP) hS (fun x _ h => zA_mono hS.1 h) (fun x h => zA_mono hS.1 h) (fun r u t H1 locs1 ht hvm hp hB hz1 hk1 hS1 => ?_)
  obtain ⟨rfl, rfl⟩ := hp
  unfold zPost at hB
  rw [ht] at hB
  exact kk ls H1 locs1 hl hB hS1
theorem V_callSi (C : zC p s m args meth c cc nL own w L cl) {g : zG} {rm : Room} {n ix : Nat} {As rest st0 : List Value} {z : Int} {σ2 : Nat → Nat → Int} (hM : zMi l w L cl g rm As σ z σ2) (h1 : Cond.methodLink own ix g.1 ∈ zT) (h2 : Cond.static g.1 ∈ zT) (h3 : Cond.initialized g.1.cls ∈ zT) (h5 : zc g ∈ zT) (hO : zO g n) (hR : rm.cells = 0 ∧ rm.slots = 0 ∧ rm.frames + 1 ≤ R.frames ∧ 8 + (g.2.2.1 + 11) + rm.locals ≤ R.locals) (hn : As.length = n) (hst : st0 = As.reverse ++ rest) (hW : (rest.map fun v => v.category).sum ≤ 8) (hd : decode cc pc = .ok (.invokestatic ix, 3)) (hf : kc ≤ R.cells ∧ ks ≤ R.slots) (kk : V p l e R s m args below meth c nL w L cl kc ks Q (pc + 3) lv (.int (zI z) :: rest) σ2) : V p l e R s m args below meth c nL w L cl kc ks Q pc lv st0 σ :=
  V_runi (fun ls H locs hsz hP => va_runS ⟨C.1, C.2.1, C.2.2.1, C.2.2.2.1, C.2.2.2.2.1⟩ (hM H.size) (va_cwS n C.2.2.2.2.1 (zgJ h1 h2 h3 h5) rfl hR.1 hR.2.1 hO hR.2.2) (zPreS C hP As) rfl hn hsz hst (lv_room hW) hd hf) kk
theorem V_callNi (C : zC p s m args meth c cc nL own w L cl) {g : zG} {rm : Room} {n ix : Nat} {host : String} {As rest st0 : List Value} {z : Int} {σ2 : Nat → Nat → Int} (hM : zMi l w L cl g rm As σ z σ2) (h1 : (own, ix, g.1, host) ∈ L.2.2) (h2 : Cond.static g.1 ∈ zT) (h3 : Cond.initialized g.1.cls ∈ zT) (h5 : zc g ∈ zT) (hO : zO g n) (hR : rm.cells = 0 ∧ rm.slots = 0 ∧ rm.frames + 1 ≤ R.frames ∧ 8 + (g.2.2.1 + 11) + rm.locals ≤ R.locals) (hn : As.length = n) (hst : st0 = As.reverse ++ rest) (hW : (rest.map fun v => v.category).sum ≤ 8) (hd : decode cc pc = .ok (.invokestatic ix, 3)) (hf : kc ≤ R.cells ∧ ks ≤ R.slots) (kk : V p l e R s m args below meth c nL w L cl kc ks Q (pc + 3) lv (.int (zI z) :: rest) σ2) : V p l e R s m args below meth c nL w L cl kc ks Q pc lv st0 σ :=
  V_runi (fun ls H locs hsz hP => va_runSN (host := host) ⟨C.1, C.2.1, C.2.2.1, C.2.2.2.1, C.2.2.2.2.1⟩ (hM H.size) ⟨va_cnB n C.2.2.2.2.1 (zgN h5) rfl hR.1 hR.2.1 (C.2.2.2.2.2.2.2.2 _ h1) (C.2.2.2.2.1 _ h3) hO hR.2.2, C.2.2.2.2.1 _ h2, trivial⟩ (zPreS C hP As) rfl hn hsz hst (lv_room hW) hd hf) kk
theorem V_callVi (C : zC p s m args meth c cc nL own w L cl) {g : zG} {rm : Room} {n ix : Nat} {As rest st0 : List Value} {z : Int} {σ2 : Nat → Nat → Int} (k : Nat) (hk : k < L.1) {ci n0 : Nat} {fs : List (Nat × Nat)} (hd0 : L.2.1 k = (ci + 3, n0, fs)) {T : u_T} {N : Nat} (hc : cl[ci]? = some (g.1.cls, T, N)) (hM : zMi l w L cl g rm (.ref (w.1 k) :: As) σ z σ2) (h1 : Cond.methodLink own ix g.1 ∈ zT) (h2 : Cond.instanceMethod g.1 ∈ zT) (h3 : Cond.selects g.1.cls g.1 g.1 ∈ zT) (h4 : Cond.initialized g.1.cls ∈ zT) (h5 : zc g ∈ zT) (hO : zO g n) (hR : rm.cells = 0 ∧ rm.slots = 0 ∧ rm.frames + 1 ≤ R.frames ∧ 8 + (g.2.2.1 + 11) + rm.locals ≤ R.locals) (hn : As.length = n) (hst : st0 = As.reverse ++ .ref (w.1 k) :: rest) (hW : (rest.map fun v => v.category).sum ≤ 8) (hd : decode cc pc = .ok (.invokevirtual ix, 3)) (hf : kc ≤ R.cells ∧ ks ≤ R.slots) (kk : V p l e R s m args below meth c nL w L cl kc ks Q (pc + 3) lv (.int (zI z) :: rest) σ2) : V p l e R s m args below meth c nL w L cl kc ks Q pc lv st0 σ :=
  V_runi (fun ls H locs hsz hP => va_runV ⟨C.1, C.2.1, C.2.2.1, C.2.2.2.1, C.2.2.2.2.1⟩ (hM H.size) (cwV n C.2.2.2.2.1 (zgV h1 h2 h3 h4 h5) rfl hR.1 hR.2.1 ⟨rfl, hO⟩ hR.2.2) (zPreV C hP As k hk hd0 hc) rfl hn hsz hst (lv_room hW) hd hf) kk
theorem V_runl {st0 rest : List Value} {a : Array Value} {z : Int} {σ2 : Nat → Nat → Int} (hr : ∀ (ls : Array Slot) (H : Heap) (locs : List Loc), ls.size = nL → va_P w.2.1 cl (zX w L σ) H → va_Run p l e R s m args below meth c H locs kc ks 0 0 (F0 m pc ls st0) rest (zQl w L cl z σ2 H.size a) (zA w L.1 H.size)) (kk : V p l e R s m args below meth c nL w L cl kc ks Q (pc + 3) lv (.long (zL z) :: rest) σ2) : V p l e R s m args below meth c nL w L cl kc ks Q pc lv st0 σ := by
  intro ls H locs hl hP hS
  refine va_calll (hr ls H locs hl.1 hP) hS (fun x _ h => zA_mono hS.1 h) (fun x h => zA_mono hS.1 h) (fun r u t H1 locs1 ht hvm hp hB hz1 hk1 hS1 => ?_)
  obtain ⟨rfl, rfl⟩ := hp
  unfold zPost at hB
  rw [ht] at hB
  exact kk ls H1 locs1 hl hB hS1
theorem V_callSl (C : zC p s m args meth c cc nL own w L cl) {g : zG} {rm : Room} {n ix : Nat} {As rest st0 : List Value} {z : Int} {σ2 : Nat → Nat → Int} (hM : zMl l w L cl g rm As σ z σ2) (h1 : Cond.methodLink own ix g.1 ∈ zT) (h2 : Cond.static g.1 ∈ zT) (h3 : Cond.initialized g.1.cls ∈ zT) (h5 : zc g ∈ zT) (hO : zO g n) (hR : rm.cells = 0 ∧ rm.slots = 0 ∧ rm.frames + 1 ≤ R.frames ∧ 8 + (g.2.2.1 + 11) + rm.locals ≤ R.locals) (hn : As.length = n) (hst : st0 = As.reverse ++ rest) (hW : (rest.map fun v => v.category).sum ≤ 8) (hd : decode cc pc = .ok (.invokestatic ix, 3)) (hf : kc ≤ R.cells ∧ ks ≤ R.slots) (kk : V p l e R s m args below meth c nL w L cl kc ks Q (pc + 3) lv (.long (zL z) :: rest) σ2) : V p l e R s m args below meth c nL w L cl kc ks Q pc lv st0 σ :=
  V_runl (fun ls H locs hsz hP => va_runS ⟨C.1, C.2.1, C.2.2.1, C.2.2.2.1, C.2.2.2.2.1⟩ (hM H.size) (va_cwS n C.2.2.2.2.1 (zgJ h1 h2 h3 h5) rfl hR.1 hR.2.1 hO hR.2.2) (zPreS C hP As) rfl hn hsz hst (lv_room hW) hd hf) kk
theorem V_callNl (C : zC p s m args meth c cc nL own w L cl) {g : zG} {rm : Room} {n ix : Nat} {host : String} {As rest st0 : List Value} {z : Int} {σ2 : Nat → Nat → Int} (hM : zMl l w L cl g rm As σ z σ2) (h1 : (own, ix, g.1, host) ∈ L.2.2) (h2 : Cond.static g.1 ∈ zT) (h3 : Cond.initialized g.1.cls ∈ zT) (h5 : zc g ∈ zT) (hO : zO g n) (hR : rm.cells = 0 ∧ rm.slots = 0 ∧ rm.frames + 1 ≤ R.frames ∧ 8 + (g.2.2.1 + 11) + rm.locals ≤ R.locals) (hn : As.length = n) (hst : st0 = As.reverse ++ rest) (hW : (rest.map fun v => v.category).sum ≤ 8) (hd : decode cc pc = .ok (.invokestatic ix, 3)) (hf : kc ≤ R.cells ∧ ks ≤ R.slots) (kk : V p l e R s m args below meth c nL w L cl kc ks Q (pc + 3) lv (.long (zL z) :: rest) σ2) : V p l e R s m args below meth c nL w L cl kc ks Q pc lv st0 σ :=
  V_runl (fun ls H locs hsz hP => va_runSN (host := host) ⟨C.1, C.2.1, C.2.2.1, C.2.2.2.1, C.2.2.2.2.1⟩ (hM H.size) ⟨va_cnB n C.2.2.2.2.1 (zgN h5) rfl hR.1 hR.2.1 (C.2.2.2.2.2.2.2.2 _ h1) (C.2.2.2.2.1 _ h3) hO hR.2.2, C.2.2.2.2.1 _ h2, trivial⟩ (zPreS C hP As) rfl hn hsz hst (lv_room hW) hd hf) kk
theorem V_callVl (C : zC p s m args meth c cc nL own w L cl) {g : zG} {rm : Room} {n ix : Nat} {As rest st0 : List Value} {z : Int} {σ2 : Nat → Nat → Int} (k : Nat) (hk : k < L.1) {ci n0 : Nat} {fs : List (Nat × Nat)} (hd0 : L.2.1 k = (ci + 3, n0, fs)) {T : u_T} {N : Nat} (hc : cl[ci]? = some (g.1.cls, T, N)) (hM : zMl l w L cl g rm (.ref (w.1 k) :: As) σ z σ2) (h1 : Cond.methodLink own ix g.1 ∈ zT) (h2 : Cond.instanceMethod g.1 ∈ zT) (h3 : Cond.selects g.1.cls g.1 g.1 ∈ zT) (h4 : Cond.initialized g.1.cls ∈ zT) (h5 : zc g ∈ zT) (hO : zO g n) (hR : rm.cells = 0 ∧ rm.slots = 0 ∧ rm.frames + 1 ≤ R.frames ∧ 8 + (g.2.2.1 + 11) + rm.locals ≤ R.locals) (hn : As.length = n) (hst : st0 = As.reverse ++ .ref (w.1 k) :: rest) (hW : (rest.map fun v => v.category).sum ≤ 8) (hd : decode cc pc = .ok (.invokevirtual ix, 3)) (hf : kc ≤ R.cells ∧ ks ≤ R.slots) (kk : V p l e R s m args below meth c nL w L cl kc ks Q (pc + 3) lv (.long (zL z) :: rest) σ2) : V p l e R s m args below meth c nL w L cl kc ks Q pc lv st0 σ :=
  V_runl (fun ls H locs hsz hP => va_runV ⟨C.1, C.2.1, C.2.2.1, C.2.2.2.1, C.2.2.2.2.1⟩ (hM H.size) (cwV n C.2.2.2.2.1 (zgV h1 h2 h3 h4 h5) rfl hR.1 hR.2.1 ⟨rfl, hO⟩ hR.2.2) (zPreV C hP As k hk hd0 hc) rfl hn hsz hst (lv_room hW) hd hf) kk
theorem V_runv {st0 rest : List Value} {a : Array Value} {σ2 : Nat → Nat → Int} (hr : ∀ (ls : Array Slot) (H : Heap) (locs : List Loc), ls.size = nL → va_P w.2.1 cl (zX w L σ) H → va_Run p l e R s m args below meth c H locs kc ks 0 0 (F0 m pc ls st0) rest (zQv w L cl σ2 H.size a) (zA w L.1 H.size)) (kk : V p l e R s m args below meth c nL w L cl kc ks Q (pc + 3) lv rest σ2) : V p l e R s m args below meth c nL w L cl kc ks Q pc lv st0 σ := by
  intro ls H locs hl hP hS
  refine va_callv (hr ls H locs hl.1 hP) hS (fun x _ h => zA_mono hS.1 h) (fun x h => zA_mono hS.1 h) (fun u t H1 locs1 ht hvm hp hB hz1 hk1 hS1 => ?_)
  subst hp
  unfold zPost at hB
  rw [ht] at hB
  exact kk ls H1 locs1 hl hB hS1
theorem V_callSv (C : zC p s m args meth c cc nL own w L cl) {g : zG} {rm : Room} {n ix : Nat} {As rest st0 : List Value} {σ2 : Nat → Nat → Int} (hM : zMv l w L cl g rm As σ σ2) (h1 : Cond.methodLink own ix g.1 ∈ zT) (h2 : Cond.static g.1 ∈ zT) (h3 : Cond.initialized g.1.cls ∈ zT) (h5 : zc g ∈ zT) (hO : zO g n) (hR : rm.cells = 0 ∧ rm.slots = 0 ∧ rm.frames + 1 ≤ R.frames ∧ 8 + (g.2.2.1 + 11) + rm.locals ≤ R.locals) (hn : As.length = n) (hst : st0 = As.reverse ++ rest) (hW : (rest.map fun v => v.category).sum ≤ 8) (hd : decode cc pc = .ok (.invokestatic ix, 3)) (hf : kc ≤ R.cells ∧ ks ≤ R.slots) (kk : V p l e R s m args below meth c nL w L cl kc ks Q (pc + 3) lv rest σ2) : V p l e R s m args below meth c nL w L cl kc ks Q pc lv st0 σ :=
  V_runv (fun ls H locs hsz hP => va_runS ⟨C.1, C.2.1, C.2.2.1, C.2.2.2.1, C.2.2.2.2.1⟩ (hM H.size) (va_cwS n C.2.2.2.2.1 (zgJ h1 h2 h3 h5) rfl hR.1 hR.2.1 hO hR.2.2) (zPreS C hP As) rfl hn hsz hst (lv_room hW) hd hf) kk
theorem V_callNv (C : zC p s m args meth c cc nL own w L cl) {g : zG} {rm : Room} {n ix : Nat} {host : String} {As rest st0 : List Value} {σ2 : Nat → Nat → Int} (hM : zMv l w L cl g rm As σ σ2) (h1 : (own, ix, g.1, host) ∈ L.2.2) (h2 : Cond.static g.1 ∈ zT) (h3 : Cond.initialized g.1.cls ∈ zT) (h5 : zc g ∈ zT) (hO : zO g n) (hR : rm.cells = 0 ∧ rm.slots = 0 ∧ rm.frames + 1 ≤ R.frames ∧ 8 + (g.2.2.1 + 11) + rm.locals ≤ R.locals) (hn : As.length = n) (hst : st0 = As.reverse ++ rest) (hW : (rest.map fun v => v.category).sum ≤ 8) (hd : decode cc pc = .ok (.invokestatic ix, 3)) (hf : kc ≤ R.cells ∧ ks ≤ R.slots) (kk : V p l e R s m args below meth c nL w L cl kc ks Q (pc + 3) lv rest σ2) : V p l e R s m args below meth c nL w L cl kc ks Q pc lv st0 σ :=
  V_runv (fun ls H locs hsz hP => va_runSN (host := host) ⟨C.1, C.2.1, C.2.2.1, C.2.2.2.1, C.2.2.2.2.1⟩ (hM H.size) ⟨va_cnB n C.2.2.2.2.1 (zgN h5) rfl hR.1 hR.2.1 (C.2.2.2.2.2.2.2.2 _ h1) (C.2.2.2.2.1 _ h3) hO hR.2.2, C.2.2.2.2.1 _ h2, trivial⟩ (zPreS C hP As) rfl hn hsz hst (lv_room hW) hd hf) kk
theorem V_callVv (C : zC p s m args meth c cc nL own w L cl) {g : zG} {rm : Room} {n ix : Nat} {As rest st0 : List Value} {σ2 : Nat → Nat → Int} (k : Nat) (hk : k < L.1) {ci n0 : Nat} {fs : List (Nat × Nat)} (hd0 : L.2.1 k = (ci + 3, n0, fs)) {T : u_T} {N : Nat} (hc : cl[ci]? = some (g.1.cls, T, N)) (hM : zMv l w L cl g rm (.ref (w.1 k) :: As) σ σ2) (h1 : Cond.methodLink own ix g.1 ∈ zT) (h2 : Cond.instanceMethod g.1 ∈ zT) (h3 : Cond.selects g.1.cls g.1 g.1 ∈ zT) (h4 : Cond.initialized g.1.cls ∈ zT) (h5 : zc g ∈ zT) (hO : zO g n) (hR : rm.cells = 0 ∧ rm.slots = 0 ∧ rm.frames + 1 ≤ R.frames ∧ 8 + (g.2.2.1 + 11) + rm.locals ≤ R.locals) (hn : As.length = n) (hst : st0 = As.reverse ++ .ref (w.1 k) :: rest) (hW : (rest.map fun v => v.category).sum ≤ 8) (hd : decode cc pc = .ok (.invokevirtual ix, 3)) (hf : kc ≤ R.cells ∧ ks ≤ R.slots) (kk : V p l e R s m args below meth c nL w L cl kc ks Q (pc + 3) lv rest σ2) : V p l e R s m args below meth c nL w L cl kc ks Q pc lv st0 σ :=
  V_runv (fun ls H locs hsz hP => va_runV ⟨C.1, C.2.1, C.2.2.1, C.2.2.2.1, C.2.2.2.2.1⟩ (hM H.size) (cwV n C.2.2.2.2.1 (zgV h1 h2 h3 h4 h5) rfl hR.1 hR.2.1 ⟨rfl, hO⟩ hR.2.2) (zPreV C hP As k hk hd0 hc) rfl hn hsz hst (lv_room hW) hd hf) kk
/-- Math.min, Math.max, System.arraycopy of longs -/
theorem V_imin (C : zC p s m args meth c cc nL own w L cl) {ix : Nat} {a b : Int} (hlk : Cond.methodLink own ix Lib.Math.min.name ∈ zT) (hsta : Cond.static Lib.Math.min.name ∈ zT) (hini : Cond.initialized "java/lang/Math" ∈ zT) (hcode : Cond.code Lib.Math.min.name Lib.Math.min.code 2 (some .int) ∈ zT) (hfr : 1 ≤ R.frames) (hlo : (st.map fun v => v.category).sum + 13 ≤ R.locals) (hc : kc ≤ R.cells) (hs : ks ≤ R.slots) (ha : rI a) (hb : rI b) (hd : decode cc pc = .ok (.invokestatic ix, 3)) (kk : V p l e R s m args below meth c nL w L cl kc ks Q (pc + 3) lv (.int (zI (min a b)) :: st) σ) : V p l e R s m args below meth c nL w L cl kc ks Q pc lv (.int (zI b) :: .int (zI a) :: st) σ := by
  intro ls H locs hl hP hS
  refine va_mmin C.1 C.2.1 (C.2.2.1.trans hl.1.symm) C.2.2.2.1 (C.2.2.2.2.1 _ hlk) (C.2.2.2.2.1 _ hsta) (C.2.2.2.2.1 _ hini) (C.2.2.2.2.1 _ hcode) hfr hlo hc hs hd ?_
  have h := kk ls H locs hl hP hS
  by_cases h1 : b < a
  · rw [if_pos ((zI_lt hb ha).mpr h1)]
    rw [show min a b = b by omega] at h
    exact h
  · rw [if_neg (fun z => h1 ((zI_lt hb ha).mp z))]
    rw [show min a b = a by omega] at h
    exact h
theorem V_imax (C : zC p s m args meth c cc nL own w L cl) {ix : Nat} {a b : Int} (hlk : Cond.methodLink own ix Lib.Math.max.name ∈ zT) (hsta : Cond.static Lib.Math.max.name ∈ zT) (hini : Cond.initialized "java/lang/Math" ∈ zT) (hcode : Cond.code Lib.Math.max.name Lib.Math.max.code 2 (some .int) ∈ zT) (hfr : 1 ≤ R.frames) (hlo : (st.map fun v => v.category).sum + 13 ≤ R.locals) (hc : kc ≤ R.cells) (hs : ks ≤ R.slots) (ha : rI a) (hb : rI b) (hd : decode cc pc = .ok (.invokestatic ix, 3)) (kk : V p l e R s m args below meth c nL w L cl kc ks Q (pc + 3) lv (.int (zI (max a b)) :: st) σ) : V p l e R s m args below meth c nL w L cl kc ks Q pc lv (.int (zI b) :: .int (zI a) :: st) σ := by
  intro ls H locs hl hP hS
  refine va_mmax C.1 C.2.1 (C.2.2.1.trans hl.1.symm) C.2.2.2.1 (C.2.2.2.2.1 _ hlk) (C.2.2.2.2.1 _ hsta) (C.2.2.2.2.1 _ hini) (C.2.2.2.2.1 _ hcode) hfr hlo hc hs hd ?_
  have h := kk ls H locs hl hP hS
  by_cases h1 : a < b
  · rw [if_pos ((zI_lt ha hb).mpr h1)]
    rw [show max a b = b by omega] at h
    exact h
  · rw [if_neg (fun z => h1 ((zI_lt ha hb).mp z))]
    rw [show max a b = a by omega] at h
    exact h
theorem V_lmin (C : zC p s m args meth c cc nL own w L cl) {ix : Nat} {a b : Int} (hlk : Cond.methodLink own ix Lib.MathLoose.min_long.x ∈ zT) (hsta : Cond.static Lib.MathLoose.min_long.x ∈ zT) (hini : Cond.initialized "java/lang/Math" ∈ zT) (hcode : Cond.code Lib.MathLoose.min_long.x Lib.MathLoose.min_long.code 4 (some .long) ∈ zT) (hfr : 1 ≤ R.frames) (hlo : (st.map fun v => v.category).sum + 15 ≤ R.locals) (hc : kc ≤ R.cells) (hs : ks ≤ R.slots) (ha : rL a) (hb : rL b) (hd : decode cc pc = .ok (.invokestatic ix, 3)) (kk : V p l e R s m args below meth c nL w L cl kc ks Q (pc + 3) lv (.long (zL (min a b)) :: st) σ) : V p l e R s m args below meth c nL w L cl kc ks Q pc lv (.long (zL b) :: .long (zL a) :: st) σ := by
  intro ls H locs hl hP hS
  refine va_mmin_long C.1 C.2.1 (C.2.2.1.trans hl.1.symm) C.2.2.2.1 (C.2.2.2.2.1 _ hlk) (C.2.2.2.2.1 _ hsta) (C.2.2.2.2.1 _ hini) (C.2.2.2.2.1 _ hcode) hfr hlo hc hs hd ?_
  have h := kk ls H locs hl hP hS
  by_cases h1 : b < a
  · rw [if_pos ((zL_lt hb ha).mpr h1)]
    rw [show min a b = b by omega] at h
    exact h
  · rw [if_neg (fun z => h1 ((zL_lt hb ha).mp z))]
    rw [show min a b = a by omega] at h
    exact h
/-- all n places of the long[] k0 into the long[] k1 of the same length -/
theorem V_copyl (C : zC p s m args meth c cc nL own w L cl) {ix : Nat} (k0 k1 n : Nat) (hk0 : k0 < L.1) (hk1 : k1 < L.1) {fs0 fs1 : List (Nat × Nat)} (hd0 : L.2.1 k0 = (1, n, fs0)) (hd1 : L.2.1 k1 = (1, n, fs1)) (hn : n < 2 ^ 31) (hlk : Cond.methodLink own ix arraycopyName ∈ zT) (hnat : Cond.native arraycopyName ∈ zT) (hsta : Cond.static arraycopyName ∈ zT) (hini : Cond.initialized "java/lang/System" ∈ zT) (hfr : 1 ≤ R.frames) (hlo : (st.map fun v => v.category).sum + (nativeFrameWords "java/lang/System" "arraycopy" 5 + 11) ≤ R.locals) (hd : decode cc pc = .ok (.invokestatic ix, 3)) (kk : V p l e R s m args below meth c nL w L cl kc ks Q (pc + 3) lv st (zUA σ k1 (fun j => if j < n then σ k0 j else σ k1 j))) : V p l e R s m args below meth c nL w L cl kc ks Q pc lv (.int (zI (n : Int)) :: .int (zI 0) :: .ref (w.1 k1) :: .int (zI 0) :: .ref (w.1 k0) :: st) σ := by
  intro ls H locs hl hP hS
  have hn0 : ¬ (zI (n : Int)) < 0 := by rw [zI_nat]; exact nI_pos hn
  have h00 : ¬ (zI 0) < 0 := by decide
  have hc0 : (zI 0).toNatClampNeg = 0 := by decide
  refine va_copyl C.1 C.2.1 (C.2.2.1.trans hl.1.symm) C.2.2.2.1 (C.2.2.2.2.1 _ hlk) (C.2.2.2.2.1 _ hnat) (C.2.2.2.2.1 _ hsta) (C.2.2.2.2.1 _ hini) C.2.2.2.2.2.1 hP (zX_D C.2.2.2.2.2.2.1) hS k0 k1 1 1 (c0 := (w.2.2 1)) (c1 := (w.2.2 1)) (n0 := n) (n1 := n) (f := fun j => zL (σ k0 j)) (g := fun j => zL (σ k1 j)) (ty := .long) (by rw [zX_get hk0, hd0]; rfl) (by rw [zX_get hk1, hd1]; rfl) rfl rfl rfl h00 h00 hn0 (by rw [hc0, zI_cl hn]; omega) (by rw [hc0, zI_cl hn]; omega) (fun _ _ => rfl) hfr hlo hd (fun H1 locs1 hP1 _ hS1 => ?_)
  rw [hc0, zI_cl hn] at hP1
  rw [zX_set (σ' := zUA σ k1 (fun j => if j < n then σ k0 j else σ k1 j)) (by
    rw [hd1]; show Sum.inl _ = Sum.inl _; congr 4; refine congrArg Sum.inl ?_; funext j; unfold va_cpy; rw [zUA_self]; by_cases h : j < n <;> simp [h]) (fun k' h => zUA_ne h)] at hP1
  exact kk ls H1 locs1 hl hP1 hS1
end ZV
end
section
/-! SETS OF STOPS AS NUMBERS -/
def wi (S s : Nat) : Nat := S ||| 2 ^ s
def wo (S s : Nat) : Nat := (S ||| 2 ^ s) ^^^ 2 ^ s
theorem wi_bit (S s t : Nat) : (wi S s).testBit t = (S.testBit t || decide (s = t)) := by
  simp [wi, Nat.testBit_or, Nat.testBit_two_pow]
theorem wo_bit (S s t : Nat) : (wo S s).testBit t = (S.testBit t && !decide (s = t)) := by
  by_cases h : s = t <;> simp [wo, Nat.testBit_or, Nat.testBit_xor, Nat.testBit_two_pow, h]
theorem wo_wi {S s : Nat} (h : S.testBit s = false) : wo (wi S s) s = S := by
  apply Nat.eq_of_testBit_eq
  intro i
  rw [wo_bit, wi_bit]
  by_cases h1 : s = i
  · subst h1; simp [h]
  · simp [h1]
theorem wi_wo {S s : Nat} (h : S.testBit s = true) : wi (wo S s) s = S := by
  apply Nat.eq_of_testBit_eq
  intro i
  rw [wi_bit, wo_bit]
  by_cases h1 : s = i
  · subst h1; simp [h]
  · simp [h1]
theorem dj_add {a b : Nat} (h : a &&& b = 0) : a ||| b = a + b := by
  have hw : a + b < 2 ^ (a + b) := Nat.lt_two_pow_self
  have e := BitVec.add_eq_or_of_and_eq_zero (BitVec.ofNat (a + b) a) (BitVec.ofNat (a + b) b) (by rw [← BitVec.ofNat_and, h])
  have e2 := congrArg BitVec.toNat e
  rw [BitVec.toNat_add, BitVec.toNat_or, BitVec.toNat_ofNat, BitVec.toNat_ofNat, Nat.mod_eq_of_lt (show a < 2 ^ (a + b) by omega), Nat.mod_eq_of_lt (show b < 2 ^ (a + b) by omega), Nat.mod_eq_of_lt hw] at e2
  exact e2.symm
theorem wo_add {S s : Nat} (h : S.testBit s = true) : wo S s + 2 ^ s = S := by
  have h2 : (wo S s).testBit s = false := by rw [wo_bit]; simp
  have h3 : wo S s &&& 2 ^ s = 0 := by
    apply Nat.eq_of_testBit_eq
    intro i
    rw [Nat.testBit_and, Nat.testBit_two_pow, Nat.zero_testBit]
    by_cases h4 : s = i
    · subst h4; simp [h2]
    · simp [h4]
  rw [← dj_add h3]
  exact wi_wo h
/-- a part taken off -/
theorem sub_bit {S P : Nat} (h : P &&& S = P) (i : Nat) : (S - P).testBit i = (S.testBit i && !P.testBit i) := by
  have hb : ∀ j, P.testBit j = true → S.testBit j = true := by
    intro j hj
    rw [← h, Nat.testBit_and] at hj
    simp at hj
    exact hj.2
  have h1 : (S ^^^ P) &&& P = 0 := by
    apply Nat.eq_of_testBit_eq
    intro j
    rw [Nat.testBit_and, Nat.testBit_xor, Nat.zero_testBit]
    cases hp : P.testBit j with
    | false => simp
    | true => simp [hb j hp]
  have h2 : (S ^^^ P) ||| P = S := by
    apply Nat.eq_of_testBit_eq
    intro j
    rw [Nat.testBit_or, Nat.testBit_xor]
    cases hp : P.testBit j with
    | false => simp
    | true => simp [hb j hp]
  rw [dj_add h1] at h2
  have h3 : S - P = S ^^^ P := by omega
  rw [h3, Nat.testBit_xor]
  cases hp : P.testBit i with
  | false => simp
  | true => simp [hb i hp]
theorem wo_lt {S s : Nat} (h : S.testBit s = true) : wo S s < S := by
  have := wo_add h
  have := Nat.two_pow_pos s
  omega
/-! THE LEAST OF SOME -/
def NV : Int := 1073741824
def mnF (P : Nat → Bool) (f : Nat → Int) (x : Int) : Nat → Int
  | 0 => x
  | k + 1 => if P k = true then min (mnF P f x k) (f k) else mnF P f x k
theorem mnF_x (P : Nat → Bool) (f : Nat → Int) (x : Int) (n : Nat) : mnF P f x n ≤ x := by
  induction n with
  | zero => exact Int.le_refl x
  | succ k ih => unfold mnF; split <;> omega
theorem mnF_le {P : Nat → Bool} {f : Nat → Int} {x : Int} {n i : Nat} (hi : i < n) (hP : P i = true) : mnF P f x n ≤ f i := by
  induction n with
  | zero => omega
  | succ k ih =>
    unfold mnF
    by_cases h : i = k
    · subst h; rw [if_pos hP]; omega
    · have := ih (by omega)
      split <;> omega
theorem mnF_ex (P : Nat → Bool) (f : Nat → Int) (x : Int) (n : Nat) : mnF P f x n = x ∨ ∃ i, i < n ∧ P i = true ∧ mnF P f x n = f i := by
  induction n with
  | zero => exact Or.inl rfl
  | succ k ih =>
    unfold mnF
    split
    · rename_i h
      by_cases h1 : mnF P f x k ≤ f k
      · rw [Int.min_eq_left h1]
        rcases ih with ih | ⟨i, h2, h3, h4⟩
        · exact Or.inl ih
        · exact Or.inr ⟨i, by omega, h3, h4⟩
      · rw [Int.min_eq_right (by omega)]
        exact Or.inr ⟨k, by omega, h, rfl⟩
    · rcases ih with ih | ⟨i, h2, h3, h4⟩
      · exact Or.inl ih
      · exact Or.inr ⟨i, by omega, h3, h4⟩
/-! ROUNDS: what a vehicle that leaves at t0 does; Wy the ways, F La Sv first, last, service, bh the stops behind each one. A row of stops, the last one first. -/
section Rounds
variable (n : Nat) (Wy : Nat → Nat → Int) (F La Sv : Nat → Int) (t0 : Int) (bh : Nat → Nat)
def stp (s : Nat) (t : Int) : Option Int := if La s < t then none else some (max t (F s) + Sv s)
def rdy : List Nat → Option Int
  | [] => none
  | s :: r => match r with
    | [] => stp F La Sv s (t0 + Wy 7 s)
    | u :: _ => (rdy r).bind fun t => stp F La Sv s (t + Wy u s)
def lset : List Nat → Nat
  | [] => 0
  | s :: r => wi (lset r) s
def vld : List Nat → Prop
  | [] => True
  | s :: r => s < n ∧ (lset r).testBit s = false ∧ bh s &&& lset r = 0 ∧ vld r
/-- the first second at which one can be at s behind the set R, whose rows end at the seconds g -/
def thF (g : Nat → Int) (R s : Nat) : Int := mnF (fun i => R.testBit i) (fun i => g i + Wy i s) (if R = 0 then t0 + Wy 7 s else NV) n
/-- the class's row of the table -/
def rdF (T : Nat → Nat → Int) (S s : Nat) : Int :=
  if ¬ bh s &&& wo S s = 0 then NV
  else if La s < thF n Wy t0 (T (wo S s)) (wo S s) s then NV
  else max (thF n Wy t0 (T (wo S s)) (wo S s) s) (F s) + Sv s
theorem thF_0 (g : Nat → Int) (s : Nat) : thF n Wy t0 g 0 s = t0 + Wy 7 s := by
  unfold thF
  rcases mnF_ex (fun i => Nat.testBit 0 i) (fun i => g i + Wy i s) (if (0 : Nat) = 0 then t0 + Wy 7 s else NV) n with h | ⟨i, -, h, -⟩
  · rw [h, if_pos rfl]
  · simp at h
theorem thF_le (g : Nat → Int) {R s u : Nat} (hu : u < n) (hb : R.testBit u = true) : thF n Wy t0 g R s ≤ g u + Wy u s :=
  mnF_le (P := fun i => R.testBit i) (f := fun i => g i + Wy i s) hu hb
theorem thF_ex (g : Nat → Int) {R s : Nat} (h0 : ¬ R = 0) : thF n Wy t0 g R s = NV ∨ ∃ u, u < n ∧ R.testBit u = true ∧ thF n Wy t0 g R s = g u + Wy u s := by
  unfold thF
  rw [if_neg h0]
  exact mnF_ex (fun i => R.testBit i) (fun i => g i + Wy i s) NV n
theorem lset_ne {s : Nat} {r : List Nat} : lset (s :: r) ≠ 0 := by
  intro h
  have h1 : (lset (s :: r)).testBit s = true := by unfold lset; rw [wi_bit]; simp
  rw [h] at h1
  simp at h1
theorem lset_head {s : Nat} {r : List Nat} : (lset (s :: r)).testBit s = true := by unfold lset; rw [wi_bit]; simp
theorem lset_lt {r : List Nat} (h : vld n bh r) : ∀ t, (lset r).testBit t = true → t < n := by
  induction r with
  | nil => intro t ht; simp [lset] at ht
  | cons s r ih =>
    obtain ⟨h1, h2, h3, h4⟩ := h
    intro t ht
    unfold lset at ht
    rw [wi_bit] at ht
    by_cases h5 : s = t
    · omega
    · exact ih h4 t (by simpa [h5] using ht)
/-- what the table says is never too much -/
theorem rd_opt {T : Nat → Nat → Int} {M : Nat → Prop} (hM : ∀ S s, M S → S.testBit s = true → M (wo S s)) (hT : ∀ S s, M S → s < n → S.testBit s = true → T S s = rdF n Wy F La Sv t0 bh T S s)
    : ∀ (r : List Nat) (s : Nat) (t : Int), vld n bh (s :: r) → M (lset (s :: r)) → rdy Wy F La Sv t0 (s :: r) = some t → T (lset (s :: r)) s ≤ t := by
  intro r
  induction r with
  | nil =>
    intro s t hv hm ht
    obtain ⟨h1, h2, h3, h4⟩ := hv
    rw [hT _ s hm h1 lset_head]
    have e : wo (lset [s]) s = 0 := wo_wi h2
    simp only [rdy, stp] at ht
    unfold rdF
    rw [e, thF_0]
    by_cases h5 : La s < t0 + Wy 7 s
    · rw [if_pos h5] at ht; cases ht
    · rw [if_neg h5] at ht
      cases ht
      rw [if_neg (by simp), if_neg h5]
      exact Int.le_refl _
  | cons u r ih =>
    intro s t hv hm ht
    obtain ⟨h1, h2, h3, h4⟩ := hv
    rw [hT _ s hm h1 lset_head]
    have e : wo (lset (s :: u :: r)) s = lset (u :: r) := wo_wi h2
    rw [show rdy Wy F La Sv t0 (s :: u :: r) = (rdy Wy F La Sv t0 (u :: r)).bind fun t => stp F La Sv s (t + Wy u s) from rfl] at ht
    cases hr : rdy Wy F La Sv t0 (u :: r) with
    | none => rw [hr] at ht; cases ht
    | some t1 =>
      rw [hr] at ht
      have hi := ih u t1 h4 (by rw [← e]; exact hM _ s hm lset_head) hr
      simp only [Option.bind_some, stp] at ht
      by_cases h5 : La s < t1 + Wy u s
      · rw [if_pos h5] at ht; cases ht
      · rw [if_neg h5] at ht
        cases ht
        unfold rdF
        rw [e]
        have hmn := thF_le n Wy t0 (T (lset (u :: r))) (s := s) h4.1 (lset_head (s := u) (r := r))
        rw [if_neg (fun z => z h3), if_neg (by omega)]
        omega
/-- what the table says can be had -/
theorem rd_has {T : Nat → Nat → Int} {M : Nat → Prop} (hM : ∀ S s, M S → S.testBit s = true → M (wo S s)) (hn : ∀ S s, M S → S.testBit s = true → s < n) (hT : ∀ S s, M S → s < n → S.testBit s = true → T S s = rdF n Wy F La Sv t0 bh T S s)
    (hLa : ∀ s, s < n → La s < NV) (hW : ∀ a b, 0 ≤ Wy a b) : ∀ (k S s : Nat), S ≤ k → M S → S.testBit s = true → T S s < NV → ∃ r, vld n bh (s :: r) ∧ lset (s :: r) = S ∧ rdy Wy F La Sv t0 (s :: r) = some (T S s) := by
  intro k
  induction k with
  | zero =>
    intro S s hk _ hb
    have : S = 0 := by omega
    subst this
    simp at hb
  | succ k ih =>
    intro S s hk hm hb hlt
    have hs := hn S s hm hb
    rw [hT S s hm hs hb] at hlt ⊢
    unfold rdF at hlt ⊢
    by_cases h1 : bh s &&& wo S s = 0
    · rw [if_neg (fun z => z h1)] at hlt ⊢
      by_cases h2 : La s < thF n Wy t0 (T (wo S s)) (wo S s) s
      · rw [if_pos h2] at hlt; omega
      · rw [if_neg h2]
        have hwo : (wo S s).testBit s = false := by rw [wo_bit]; simp
        by_cases h0 : wo S s = 0
        · rw [h0, thF_0] at h2 ⊢
          refine ⟨[], ⟨hs, by simp [lset], by simp [lset], trivial⟩, ?_, ?_⟩
          · have := wi_wo hb
            rw [h0] at this
            exact this
          · simp only [rdy, stp, if_neg h2]
        · rcases thF_ex n Wy t0 (T (wo S s)) (s := s) h0 with h | ⟨u, hu, hub, h⟩
          · rw [h] at h2
            have := hLa s hs
            omega
          · have hT1 : T (wo S s) u < NV := by
              rw [h] at h2
              have := hLa s hs
              have := hW u s
              omega
            obtain ⟨r, v1, v2, v3⟩ := ih (wo S s) u (by have := wo_lt hb; omega) (hM S s hm hb) hub hT1
            refine ⟨u :: r, ⟨hs, by rw [v2]; exact hwo, by rw [v2]; exact h1, v1⟩, ?_, ?_⟩
            · show wi (lset (u :: r)) s = S
              rw [v2]; exact wi_wo hb
            · show (rdy Wy F La Sv t0 (u :: r)).bind (fun t => stp F La Sv s (t + Wy u s)) = _
              rw [v3]
              simp only [Option.bind_some, stp]
              rw [h] at h2 ⊢
              rw [if_neg h2]
    · rw [if_pos h1] at hlt; omega
end Rounds
end
section
/-! THE MOST OF SOME; THE FIRST OF SOME -/
def mxF (P : Nat → Bool) (f : Nat → Int) (x : Int) : Nat → Int
  | 0 => x
  | k + 1 => if P k = true then max (mxF P f x k) (f k) else mxF P f x k
theorem mxF_x (P : Nat → Bool) (f : Nat → Int) (x : Int) (n : Nat) : x ≤ mxF P f x n := by
  induction n with
  | zero => exact Int.le_refl x
  | succ k ih => unfold mxF; split <;> omega
theorem mxF_le {P : Nat → Bool} {f : Nat → Int} {x : Int} {n i : Nat} (hi : i < n) (hP : P i = true) : f i ≤ mxF P f x n := by
  induction n with
  | zero => omega
  | succ k ih =>
    unfold mxF
    by_cases h : i = k
    · subst h; rw [if_pos hP]; omega
    · have := ih (by omega)
      split <;> omega
theorem mxF_ex (P : Nat → Bool) (f : Nat → Int) (x : Int) (n : Nat) : mxF P f x n = x ∨ ∃ i, i < n ∧ P i = true ∧ mxF P f x n = f i := by
  induction n with
  | zero => exact Or.inl rfl
  | succ k ih =>
    unfold mxF
    split
    · rename_i h
      by_cases h1 : f k ≤ mxF P f x k
      · rw [Int.max_eq_left h1]
        rcases ih with ih | ⟨i, h2, h3, h4⟩
        · exact Or.inl ih
        · exact Or.inr ⟨i, by omega, h3, h4⟩
      · rw [Int.max_eq_right (by omega)]
        exact Or.inr ⟨k, by omega, h, rfl⟩
    · rcases ih with ih | ⟨i, h2, h3, h4⟩
      · exact Or.inl ih
      · exact Or.inr ⟨i, by omega, h3, h4⟩
def fsF (P : Nat → Bool) : Nat → Option Nat
  | 0 => none
  | k + 1 => match fsF P k with
    | some x => some x
    | none => if P k = true then some k else none
theorem fsF_none {P : Nat → Bool} {n : Nat} (h : fsF P n = none) : ∀ i, i < n → P i = false := by
  induction n with
  | zero => intro i hi; omega
  | succ k ih =>
    unfold fsF at h
    cases h1 : fsF P k with
    | some x => rw [h1] at h; cases h
    | none =>
      rw [h1] at h
      dsimp only at h
      intro i hi
      by_cases h2 : i = k
      · subst h2
        cases h3 : P i with
        | false => rfl
        | true => rw [h3] at h; simp at h
      · exact ih h1 i (by omega)
theorem fsF_some {P : Nat → Bool} {n x : Nat} (h : fsF P n = some x) : x < n ∧ P x = true ∧ ∀ i, i < x → P i = false := by
  induction n with
  | zero => cases h
  | succ k ih =>
    unfold fsF at h
    cases h1 : fsF P k with
    | some y =>
      rw [h1] at h
      cases h
      obtain ⟨a, b, c⟩ := ih h1
      exact ⟨by omega, b, c⟩
    | none =>
      rw [h1] at h
      dsimp only at h
      split at h
      · cases h
        rename_i h2
        exact ⟨by omega, h2, fsF_none h1⟩
      · cases h
/-! ROWS IN THEIR ORDER -/
def lexLe : List Nat → List Nat → Prop
  | [], _ => True
  | _ :: _, [] => False
  | a :: x, b :: y => a < b ∨ (a = b ∧ lexLe x y)
theorem lexLe_anti : ∀ (x y : List Nat), x.length = y.length → lexLe x y → lexLe y x → x = y
  | [], [], _, _, _ => rfl
  | [], _ :: _, h, _, _ => by simp at h
  | _ :: _, [], h, _, _ => by simp at h
  | a :: x, b :: y, h, h1, h2 => by
    rcases h1 with h1 | ⟨h1, h3⟩
    · rcases h2 with h2 | ⟨h2, _⟩ <;> omega
    · rcases h2 with h2 | ⟨_, h4⟩
      · omega
      · rw [h1, lexLe_anti x y (by simpa using h) h3 h4]
/-! HOW MANY -/
def cnt (P : Nat → Bool) : Nat → Nat
  | 0 => 0
  | k + 1 => cnt P k + if P k = true then 1 else 0
theorem cnt_one {P P' : Nat → Bool} {s : Nat} (h0 : P s = false) (h1 : P' s = true) (h : ∀ i, i ≠ s → P' i = P i) : ∀ n, cnt P' n = cnt P n + if s < n then 1 else 0 := by
  intro n
  induction n with
  | zero => rfl
  | succ k ih =>
    unfold cnt
    rw [ih]
    by_cases hk : k = s
    · subst hk
      simp [h0, h1]
    · rw [h k hk]
      have : (s < k + 1) = (s < k) := by apply propext; omega
      simp only [this]
      omega
theorem vld_len {n : Nat} {bh : Nat → Nat} : ∀ {r : List Nat}, vld n bh r → r.length = cnt (fun i => (lset r).testBit i) n
  | [], _ => by
    have : ∀ n, cnt (fun i => (lset []).testBit i) n = 0 := by
      intro n
      induction n with
      | zero => rfl
      | succ k ih => unfold cnt; rw [ih]; simp [lset]
    rw [this]; rfl
  | s :: r, h => by
    obtain ⟨h1, h2, h3, h4⟩ := h
    have e := cnt_one (P := fun i => (lset r).testBit i) (P' := fun i => (lset (s :: r)).testBit i) (s := s) h2 lset_head (fun i hi => by
      show (wi (lset r) s).testBit i = _
      rw [wi_bit]; simp [Ne.symm hi]) n
    rw [e, ← vld_len h4, if_pos h1]
    rfl
section Drive
variable (n : Nat) (Wy : Nat → Nat → Int) (F La Sv : Nat → Int) (ah : Nat → Nat) (B : Int)
def fwd : List Nat → Int → Nat → Option Int
  | [], t, p => some (t + Wy p 7)
  | s :: r, t, p => (stp F La Sv s (t + Wy p s)).bind fun t' => fwd r t' s
/-- the last second at which s may be left, the set R, to be begun by the seconds g, being left -/
def lvF (g : Nat → Int) (R s : Nat) : Int := mxF (fun i => R.testBit i) (fun i => g i - Wy s i) (if R = 0 then B - Wy s 7 else -1) n
def ltF (T : Nat → Nat → Int) (P s : Nat) : Int :=
  if ¬ ah s &&& wo P s = 0 then -1
  else if lvF n Wy B (T (wo P s)) (wo P s) s - Sv s < F s then -1
  else min (lvF n Wy B (T (wo P s)) (wo P s) s - Sv s) (La s)
theorem lvF_0 (g : Nat → Int) (s : Nat) : lvF n Wy B g 0 s = B - Wy s 7 := by
  unfold lvF
  rcases mxF_ex (fun i => Nat.testBit 0 i) (fun i => g i - Wy s i) (if (0 : Nat) = 0 then B - Wy s 7 else -1) n with h | ⟨i, -, h, -⟩
  · rw [h, if_pos rfl]
  · simp at h
theorem lvF_le (g : Nat → Int) {R s u : Nat} (hu : u < n) (hb : R.testBit u = true) : g u - Wy s u ≤ lvF n Wy B g R s :=
  mxF_le (P := fun i => R.testBit i) (f := fun i => g i - Wy s i) hu hb
theorem lvF_ex (g : Nat → Int) {R s : Nat} (h0 : ¬ R = 0) : lvF n Wy B g R s = -1 ∨ ∃ u, u < n ∧ R.testBit u = true ∧ lvF n Wy B g R s = g u - Wy s u := by
  unfold lvF
  rw [if_neg h0]
  exact mxF_ex (fun i => R.testBit i) (fun i => g i - Wy s i) (-1) n
/-- there in time: the rest can be driven -/
theorem lt_has {T : Nat → Nat → Int} {M : Nat → Prop} (hM : ∀ S s, M S → S.testBit s = true → M (wo S s)) (hn : ∀ S s, M S → S.testBit s = true → s < n) (hT : ∀ S s, M S → s < n → S.testBit s = true → T S s = ltF n Wy F La Sv ah B T S s)
    (hF : ∀ s, s < n → 0 ≤ F s) (hS : ∀ s, s < n → 0 ≤ Sv s) (hW : ∀ a b, 0 ≤ Wy a b) : ∀ (k P s : Nat) (a : Int), P ≤ k → M P → P.testBit s = true → 0 ≤ a → a ≤ T P s →
    ∃ r b, vld n ah (s :: r) ∧ lset (s :: r) = P ∧ (stp F La Sv s a).bind (fun t' => fwd Wy F La Sv r t' s) = some b ∧ b ≤ B := by
  intro k
  induction k with
  | zero =>
    intro P s a hk _ hb
    have : P = 0 := by omega
    subst this
    simp at hb
  | succ k ih =>
    intro P s a hk hm hb ha hle
    have hs := hn P s hm hb
    have hF := hF s hs
    have hS0 := hS s hs
    rw [hT P s hm hs hb] at hle
    unfold ltF at hle
    by_cases h1 : ah s &&& wo P s = 0
    · rw [if_neg (fun z => z h1)] at hle
      by_cases h2 : lvF n Wy B (T (wo P s)) (wo P s) s - Sv s < F s
      · rw [if_pos h2] at hle; omega
      · rw [if_neg h2] at hle
        have hwo : (wo P s).testBit s = false := by rw [wo_bit]; simp
        have hst : stp F La Sv s a = some (max a (F s) + Sv s) := by unfold stp; rw [if_neg (by omega)]
        rw [hst]
        simp only [Option.bind_some]
        by_cases h0 : wo P s = 0
        · rw [h0, lvF_0] at h2 hle
          refine ⟨[], max a (F s) + Sv s + Wy s 7, ⟨hs, by simp [lset], by simp [lset], trivial⟩, ?_, rfl, by omega⟩
          have := wi_wo hb
          rw [h0] at this
          exact this
        · rcases lvF_ex n Wy B (T (wo P s)) (s := s) h0 with h | ⟨u, hu, hub, h⟩
          · rw [h] at h2
            omega
          · rw [h] at h2 hle
            have hWu := hW s u
            obtain ⟨r, b, v1, v2, v3, v4⟩ := ih (wo P s) u (max a (F s) + Sv s + Wy s u) (by have := wo_lt hb; omega) (hM P s hm hb) hub (by omega) (by omega)
            refine ⟨u :: r, b, ⟨hs, by rw [v2]; exact hwo, by rw [v2]; exact h1, v1⟩, ?_, v3, v4⟩
            show wi (lset (u :: r)) s = P
            rw [v2]; exact wi_wo hb
    · rw [if_pos h1] at hle; omega
theorem lt_opt {T : Nat → Nat → Int} {M : Nat → Prop} (hM : ∀ S s, M S → S.testBit s = true → M (wo S s)) (hT : ∀ S s, M S → s < n → S.testBit s = true → T S s = ltF n Wy F La Sv ah B T S s)
    : ∀ (r : List Nat) (s : Nat) (a b : Int), vld n ah (s :: r) → M (lset (s :: r)) → (stp F La Sv s a).bind (fun t' => fwd Wy F La Sv r t' s) = some b → b ≤ B → a ≤ T (lset (s :: r)) s := by
  intro r
  induction r with
  | nil =>
    intro s a b hv hm ht hB
    obtain ⟨h1, h2, h3, h4⟩ := hv
    rw [hT _ s hm h1 lset_head]
    have e : wo (lset [s]) s = 0 := wo_wi h2
    unfold stp at ht
    by_cases h5 : La s < a
    · rw [if_pos h5] at ht; cases ht
    · rw [if_neg h5] at ht
      simp only [Option.bind_some, fwd] at ht
      cases ht
      unfold ltF
      rw [e, lvF_0, if_neg (by simp), if_neg (by omega)]
      omega
  | cons u r ih =>
    intro s a b hv hm ht hB
    obtain ⟨h1, h2, h3, h4⟩ := hv
    rw [hT _ s hm h1 lset_head]
    have e : wo (lset (s :: u :: r)) s = lset (u :: r) := wo_wi h2
    unfold stp at ht
    by_cases h5 : La s < a
    · rw [if_pos h5] at ht; cases ht
    · rw [if_neg h5] at ht
      simp only [Option.bind_some, fwd] at ht
      have hi := ih u _ b h4 (by rw [← e]; exact hM _ s hm lset_head) ht hB
      unfold ltF
      rw [e]
      have hmx := lvF_le n Wy B (T (lset (u :: r))) (s := s) h4.1 (lset_head (s := u) (r := r))
      rw [if_neg (fun z => z h3), if_neg (by omega)]
      omega
/-- the class's drive: the first stop that is in time, again and again -/
def drv (T : Nat → Nat → Int) : Nat → Nat → Int → Nat → List Nat
  | 0, _, _, _ => []
  | k + 1, p, t, P => match fsF (fun s => P.testBit s && decide (t + Wy p s ≤ T P s)) n with
    | none => []
    | some s => s :: drv T k s (max (t + Wy p s) (F s) + Sv s) (wo P s)
theorem drv_ok {T : Nat → Nat → Int} {M : Nat → Prop} (hM : ∀ S s, M S → S.testBit s = true → M (wo S s)) (hn : ∀ S s, M S → S.testBit s = true → s < n) (hT : ∀ S s, M S → s < n → S.testBit s = true → T S s = ltF n Wy F La Sv ah B T S s)
    (hF : ∀ s, s < n → 0 ≤ F s) (hS : ∀ s, s < n → 0 ≤ Sv s) (hW : ∀ a b, 0 ≤ Wy a b) : ∀ (k : Nat) (r : List Nat) (p : Nat) (t b : Int), vld n ah r → r.length ≤ k → 0 ≤ t → M (lset r) → fwd Wy F La Sv r t p = some b → b ≤ B →
    ∃ b', vld n ah (drv n Wy F Sv T k p t (lset r)) ∧ lset (drv n Wy F Sv T k p t (lset r)) = lset r ∧ fwd Wy F La Sv (drv n Wy F Sv T k p t (lset r)) t p = some b' ∧ b' ≤ B ∧ lexLe (drv n Wy F Sv T k p t (lset r)) r := by
  intro k
  induction k with
  | zero =>
    intro r p t b hv hlen ht hm hf hB
    have : r = [] := List.length_eq_zero_iff.mp (by omega)
    subst this
    exact ⟨b, trivial, rfl, hf, hB, trivial⟩
  | succ k ih =>
    intro r p t b hv hlen ht hm hf hB
    cases r with
    | nil =>
      have h0 : fsF (fun s => (lset []).testBit s && decide (t + Wy p s ≤ T (lset []) s)) n = none := by
        cases h : fsF (fun s => (lset []).testBit s && decide (t + Wy p s ≤ T (lset []) s)) n with
        | none => rfl
        | some x =>
          have := (fsF_some h).2.1
          simp [lset] at this
      unfold drv
      rw [h0]
      exact ⟨b, trivial, rfl, hf, hB, trivial⟩
    | cons s0 r0 =>
      have hlt : t + Wy p s0 ≤ T (lset (s0 :: r0)) s0 := lt_opt n Wy F La Sv ah B hM hT r0 s0 (t + Wy p s0) b hv hm hf hB
      cases hfs : fsF (fun s => (lset (s0 :: r0)).testBit s && decide (t + Wy p s ≤ T (lset (s0 :: r0)) s)) n with
      | none =>
        have := fsF_none hfs s0 hv.1
        simp [lset_head, hlt] at this
      | some s =>
        obtain ⟨hs, hps, hmin⟩ := fsF_some hfs
        simp only [Bool.and_eq_true, decide_eq_true_eq] at hps
        obtain ⟨hb, hle⟩ := hps
        have hs0 : s ≤ s0 := by
          rcases Nat.lt_or_ge s0 s with h | h
          · have := hmin s0 h
            simp [lset_head, hlt] at this
          · exact h
        have key : ∃ r1 b1, vld n ah (s :: r1) ∧ lset (s :: r1) = lset (s0 :: r0) ∧ (stp F La Sv s (t + Wy p s)).bind (fun t' => fwd Wy F La Sv r1 t' s) = some b1 ∧ b1 ≤ B ∧ (s = s0 → r1 = r0) := by
          by_cases hss : s = s0
          · subst hss
            exact ⟨r0, b, hv, rfl, hf, hB, fun _ => rfl⟩
          · obtain ⟨r1, b1, v1, v2, v3, v4⟩ := lt_has n Wy F La Sv ah B hM hn hT hF hS hW _ _ s (t + Wy p s) (Nat.le_refl _) hm hb (by have := hW p s; omega) hle
            exact ⟨r1, b1, v1, v2, v3, v4, fun h => absurd h hss⟩
        obtain ⟨r1, b1, v1, v2, v3, v4, v5⟩ := key
        have hst : stp F La Sv s (t + Wy p s) = some (max (t + Wy p s) (F s) + Sv s) := by
          unfold stp at v3 ⊢
          split at v3
          · cases v3
          · rename_i h; rw [if_neg h]
        rw [hst] at v3
        simp only [Option.bind_some] at v3
        have hl1 : r1.length ≤ k := by
          have a1 := vld_len v1
          have a2 := vld_len hv
          rw [v2, ← a2] at a1
          simp at a1 hlen
          omega
        have e1 : wo (lset (s0 :: r0)) s = lset r1 := by rw [← v2]; exact wo_wi v1.2.1
        obtain ⟨b', w1, w2, w3, w4, w5⟩ := ih r1 s _ b1 v1.2.2.2 hl1 (by have := hS s hs; have := hW p s; omega) (by rw [← e1]; exact hM _ s hm hb) v3 v4
        unfold drv
        rw [hfs]
        dsimp only
        rw [e1]
        refine ⟨b', ⟨hs, by rw [w2]; exact v1.2.1, by rw [w2]; exact v1.2.2.1, w1⟩, ?_, ?_, w4, ?_⟩
        · show wi (lset _) s = _
          rw [w2]; exact v2
        · show (stp F La Sv s (t + Wy p s)).bind _ = _
          rw [hst]; exact w3
        · rcases Nat.lt_or_ge s s0 with h | h
          · exact Or.inl h
          · have hss : s = s0 := by omega
            exact Or.inr ⟨hss, by rw [← v5 hss]; exact w5⟩
end Drive
end
section
/-! THE CHEAPEST PLAN: parts of a set, one vehicle after the other -/
theorem sub_next0 : ((List.range 128).all fun S => (List.range 128).all fun Q => !((Q &&& S == Q) && Nat.blt 0 Q) || (List.range Q).all fun P => !(P &&& S == P) || Nat.ble P ((Q - 1) &&& S)) = true := by decide +kernel
theorem sub_next (S : Nat) (hS : S < 128) (Q : Nat) (hQ : Q < 128) (h1 : Q &&& S = Q) (h2 : 0 < Q) (P : Nat) (hP : P < Q) (h3 : P &&& S = P) : P ≤ (Q - 1) &&& S := by
  have h := List.all_eq_true.mp (List.all_eq_true.mp sub_next0 S (List.mem_range.mpr hS)) Q (List.mem_range.mpr hQ)
  have hb : ((Q &&& S == Q) && Nat.blt 0 Q) = true := by
    rw [h1, Bool.and_eq_true]
    exact ⟨by simp, by simp [Nat.blt_eq, h2]⟩
  rw [hb, Bool.not_true, Bool.false_or] at h
  have h4 := List.all_eq_true.mp h P (List.mem_range.mpr hP)
  have h5 : (P &&& S == P) = true := by rw [h3]; simp
  rw [h5, Bool.not_true, Bool.false_or] at h4
  exact Nat.le_of_ble_eq_true h4
/-- the class's loop over the parts of S, from Q down -/
def lwF (S : Nat) (pr g : Nat → Int) : Nat → Nat → Int → Int
  | 0, _, x => x
  | k + 1, Q, x => if Q = 0 then x else lwF S pr g k ((Q - 1) &&& S) (min x (pr Q + g (S - Q)))
theorem lwF_x {S : Nat} {pr g : Nat → Int} : ∀ (k Q : Nat) (x : Int), lwF S pr g k Q x ≤ x := by
  intro k
  induction k with
  | zero => intro Q x; exact Int.le_refl x
  | succ k ih =>
    intro Q x
    unfold lwF
    split
    · exact Int.le_refl x
    · have := ih ((Q - 1) &&& S) (min x (pr Q + g (S - Q)))
      omega
theorem lwF_le {S : Nat} (hS : S < 128) {pr g : Nat → Int} : ∀ (k Q : Nat) (x : Int), Q ≤ k → Q < 128 → Q &&& S = Q → ∀ P, 0 < P → P ≤ Q → P &&& S = P → lwF S pr g k Q x ≤ pr P + g (S - P) := by
  intro k
  induction k with
  | zero => intro Q x hk _ _ P h1 h2; omega
  | succ k ih =>
    intro Q x hk hQ hQS P h1 h2 h3
    unfold lwF
    rw [if_neg (by omega)]
    by_cases h : P = Q
    · subst h
      have := lwF_x (S := S) (pr := pr) (g := g) k ((P - 1) &&& S) (min x (pr P + g (S - P)))
      omega
    · have hle := sub_next S hS Q hQ hQS (by omega) P (by omega) h3
      have hlt : (Q - 1) &&& S ≤ Q - 1 := Nat.and_le_left
      exact ih ((Q - 1) &&& S) _ (by omega) (by omega) (by rw [Nat.and_assoc, Nat.and_self]) P h1 hle h3
theorem lwF_ex {S : Nat} {pr g : Nat → Int} : ∀ (k Q : Nat) (x : Int), Q &&& S = Q → lwF S pr g k Q x = x ∨ ∃ P, 0 < P ∧ P &&& S = P ∧ lwF S pr g k Q x = pr P + g (S - P) := by
  intro k
  induction k with
  | zero => intro Q x _; exact Or.inl rfl
  | succ k ih =>
    intro Q x hQ
    unfold lwF
    by_cases h : Q = 0
    · rw [if_pos h]; exact Or.inl rfl
    · rw [if_neg h]
      rcases ih ((Q - 1) &&& S) (min x (pr Q + g (S - Q))) (by rw [Nat.and_assoc, Nat.and_self]) with e | ⟨P, p1, p2, p3⟩
      · by_cases h1 : x ≤ pr Q + g (S - Q)
        · rw [Int.min_eq_left h1] at e ⊢
          exact Or.inl e
        · rw [Int.min_eq_right (by omega)] at e ⊢
          exact Or.inr ⟨Q, by omega, hQ, e⟩
      · exact Or.inr ⟨P, p1, p2, p3⟩
/-- the least price of a set by these vehicles, the last one first -/
def lsV (pr : Nat → Nat → Int) (sk : Nat → Int) : List Nat → Nat → Int
  | [], S => sk S
  | v :: vs, S => lwF S (pr v) (lsV pr sk vs) S S (lsV pr sk vs S)
/-- the stops below n of which P holds, as a set -/
def bts (P : Nat → Bool) : Nat → Nat
  | 0 => 0
  | k + 1 => if P k = true then wi (bts P k) k else bts P k
theorem bts_bit (P : Nat → Bool) : ∀ n i, (bts P n).testBit i = (decide (i < n) && P i) := by
  intro n
  induction n with
  | zero => intro i; simp [bts]
  | succ k ih =>
    intro i
    unfold bts
    split
    · rename_i h
      rw [wi_bit, ih]
      by_cases h1 : k = i
      · subst h1; simp [h]
      · have : (i < k + 1) = (i < k) := by apply propext; omega
        simp [h1, this]
    · rename_i h
      rw [ih]
      by_cases h1 : k = i
      · subst h1
        have : P k = false := by cases hp : P k <;> simp_all
        simp [this]
      · have : (i < k + 1) = (i < k) := by apply propext; omega
        simp [this]
/-- a plan: f gives each stop a vehicle (or another number: skipped); what it costs over S by these vehicles -/
def prt (n : Nat) (f : Nat → Nat) (v S : Nat) : Nat := bts (fun i => S.testBit i && decide (f i = v)) n
def cst (pr : Nat → Nat → Int) (sk : Nat → Int) (n : Nat) : List Nat → (Nat → Nat) → Nat → Int
  | [], _, S => sk S
  | v :: vs, f, S => (if prt n f v S = 0 then 0 else pr v (prt n f v S)) + cst pr sk n vs f (S - prt n f v S)
theorem prt_bit (n : Nat) (f : Nat → Nat) (v S i : Nat) : (prt n f v S).testBit i = (decide (i < n) && (S.testBit i && decide (f i = v))) := bts_bit _ n i
theorem prt_sub (n : Nat) (f : Nat → Nat) (v S : Nat) : prt n f v S &&& S = prt n f v S := by
  apply Nat.eq_of_testBit_eq
  intro i
  rw [Nat.testBit_and, prt_bit]
  cases S.testBit i <;> simp
theorem prt_congr {n : Nat} {f g : Nat → Nat} {v S : Nat} (h : ∀ i, i < n → S.testBit i = true → (f i = v ↔ g i = v)) : prt n f v S = prt n g v S := by
  apply Nat.eq_of_testBit_eq
  intro i
  rw [prt_bit, prt_bit]
  by_cases h1 : i < n
  · cases h2 : S.testBit i with
    | false => simp
    | true => simp [h1, h i h1 h2]
  · simp [h1]
theorem cst_congr {pr : Nat → Nat → Int} {sk : Nat → Int} {n : Nat} : ∀ (vs : List Nat) {f g : Nat → Nat} (S : Nat), (∀ i, i < n → S.testBit i = true → f i = g i) → cst pr sk n vs f S = cst pr sk n vs g S
  | [], _, _, _, _ => rfl
  | v :: vs, f, g, S, h => by
    have e : prt n f v S = prt n g v S := prt_congr (fun i h1 h2 => by rw [h i h1 h2])
    unfold cst
    rw [e, cst_congr vs (S - prt n g v S) (fun i h1 h2 => h i h1 (by
      rw [sub_bit (prt_sub n g v S)] at h2
      simp at h2
      exact h2.1))]
theorem lsV_le {pr : Nat → Nat → Int} {sk : Nat → Int} {n : Nat} : ∀ (vs : List Nat) (f : Nat → Nat) (S : Nat), S < 128 → lsV pr sk vs S ≤ cst pr sk n vs f S
  | [], _, _, _ => Int.le_refl _
  | v :: vs, f, S, hS => by
    unfold lsV cst
    have hsub := prt_sub n f v S
    have hP : prt n f v S ≤ S := by rw [← hsub]; exact Nat.and_le_right
    have ih := lsV_le (pr := pr) (sk := sk) (n := n) vs f (S - prt n f v S) (by omega)
    by_cases h : prt n f v S = 0
    · rw [if_pos h]
      rw [h] at ih ⊢
      have := lwF_x (S := S) (pr := pr v) (g := lsV pr sk vs) S S (lsV pr sk vs S)
      simp only [Nat.sub_zero] at ih ⊢
      omega
    · rw [if_neg h]
      have := lwF_le hS (pr := pr v) (g := lsV pr sk vs) S S (lsV pr sk vs S) (Nat.le_refl _) hS (Nat.and_self S) (prt n f v S) (by omega) hP hsub
      omega
theorem lsV_ex {pr : Nat → Nat → Int} {sk : Nat → Int} {n : Nat} (z : Nat) : ∀ (vs : List Nat), vs.Nodup → z ∉ vs → ∀ S, S < 2 ^ n → ∃ f : Nat → Nat, (∀ i, f i ∈ vs ∨ f i = z) ∧ lsV pr sk vs S = cst pr sk n vs f S
  | [], _, _, S, _ => ⟨fun _ => z, fun _ => Or.inr rfl, rfl⟩
  | v :: vs, hnd, hz, S, hS => by
    have hv : v ∉ vs := (List.nodup_cons.mp hnd).1
    have hzv : z ≠ v := fun h => hz (by rw [h]; exact List.mem_cons_self)
    have hz' : z ∉ vs := fun h => hz (List.mem_cons_of_mem _ h)
    unfold lsV
    rcases lwF_ex (S := S) (pr := pr v) (g := lsV pr sk vs) S S (lsV pr sk vs S) (Nat.and_self S) with e | ⟨P, p1, p2, e⟩
    · obtain ⟨f, f1, f2⟩ := lsV_ex (pr := pr) (sk := sk) (n := n) z vs (List.nodup_cons.mp hnd).2 hz' S hS
      refine ⟨f, fun i => ?_, ?_⟩
      · rcases f1 i with h | h
        · exact Or.inl (List.mem_cons_of_mem _ h)
        · exact Or.inr h
      · have h0 : prt n f v S = 0 := by
          apply Nat.eq_of_testBit_eq
          intro i
          rw [prt_bit, Nat.zero_testBit]
          have : f i ≠ v := by
            intro h
            rcases f1 i with h1 | h1
            · exact hv (by rw [← h]; exact h1)
            · exact hzv (by rw [← h1]; exact h)
          simp [this]
        unfold cst
        rw [h0, if_pos rfl, e, f2, Nat.sub_zero]
        omega
    · have hPS : P ≤ S := by rw [← p2]; exact Nat.and_le_right
      obtain ⟨f, f1, f2⟩ := lsV_ex (pr := pr) (sk := sk) (n := n) z vs (List.nodup_cons.mp hnd).2 hz' (S - P) (by omega)
      refine ⟨fun i => if P.testBit i = true then v else f i, fun i => ?_, ?_⟩
      · dsimp only
        split
        · exact Or.inl List.mem_cons_self
        · rcases f1 i with h | h
          · exact Or.inl (List.mem_cons_of_mem _ h)
          · exact Or.inr h
      · have h0 : prt n (fun i => if P.testBit i = true then v else f i) v S = P := by
          apply Nat.eq_of_testBit_eq
          intro i
          rw [prt_bit]
          cases hp : P.testBit i with
          | true =>
            have h1 : S.testBit i = true := by
              rw [← p2, Nat.testBit_and] at hp
              simp at hp
              exact hp.2
            have h2 : i < n := by
              rcases Nat.lt_or_ge i n with h | h
              · exact h
              · have := Nat.testBit_lt_two_pow (Nat.lt_of_lt_of_le hS (Nat.pow_le_pow_right (by omega) h))
                rw [this] at h1; cases h1
            simp [h1, h2]
          | false =>
            have : f i ≠ v := by
              intro h
              rcases f1 i with h1 | h1
              · exact hv (by rw [← h]; exact h1)
              · exact hzv (by rw [← h1]; exact h)
            simp [this]
        unfold cst
        rw [h0, if_neg (by omega), e, f2]
        congr 1
        refine cst_congr vs (S - P) (fun i _ h2 => ?_)
        rw [sub_bit p2] at h2
        simp at h2
        simp [h2.2]
end
section
/-- a loop upward -/
theorem loopUp {n : Nat} {P : Nat → Prop} (h : ∀ i, i ≤ n → (i < n → P (i + 1)) → P i) : ∀ i, i ≤ n → P i := by
  intro i hi
  induction hk : n - i generalizing i with
  | zero => exact h i hi (fun z => absurd z (by omega))
  | succ k ih => exact h i hi (fun z => ih (i + 1) z (by omega))
/-- one bit of a set -/
theorem tb_0 {S s : Nat} : ((S / 2 ^ s &&& 1 : Nat) : Int) = 0 ↔ ¬ S.testBit s = true := by
  rw [Nat.testBit, Nat.shiftRight_eq_div_pow, Nat.and_comm 1]
  constructor
  · intro h
    have : S / 2 ^ s &&& 1 = 0 := by omega
    simp [this]
  · intro h
    have h1 : S / 2 ^ s &&& 1 = 0 := by simpa using h
    rw [h1]; rfl
theorem zI_wo : ∀ S, S < 128 → ∀ s, s < 7 → zI ((S : Nat) : Int) &&& (zI ((2 ^ s : Nat) : Int) ^^^ zI (-1)) = zI ((wo S s : Nat) : Int) := by decide +kernel
theorem zI_not : ∀ x, x < 128 → zI ((x : Nat) : Int) ^^^ zI (-1) = zI (-1 - (x : Int)) := by decide +kernel
theorem zI_wo1 : ∀ S, S < 128 → ∀ s, s < 7 → zI ((S : Nat) : Int) &&& zI (-1 - ((2 ^ s : Nat) : Int)) = zI ((wo S s : Nat) : Int) := by decide +kernel
end
