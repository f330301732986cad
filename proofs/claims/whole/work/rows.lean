section
-- ===== PART A: goes FIRST, ahead of the names: the tables' words, and 'selects' of the private methods out of them =====
/-- a private method of a class that the tables say can be made, by its rows of tables_1 -/
def lw_okq (q : MethodName × Nat) : Prop := (q.1.cls ≠ "java/lang/invoke/MethodHandle" ∧ q.1.cls ≠ "java/lang/invoke/VarHandle") ∧ Cond.instantiable q.1.cls q.2 ∈ tables_1 ∧ Cond.privateMethod q.1 ∈ tables_1 ∧ Cond.instanceMethod q.1 ∈ tables_1
theorem lw_p0 : lw_okq (⟨"RoundPlans$Rounds", "mayHave", "(II)Z"⟩, 4) := ⟨⟨by decide +kernel, by decide +kernel⟩, List.mem_of_getElem? (i := 114) (by decide +kernel), List.mem_of_getElem? (i := 301) (by decide +kernel), List.mem_of_getElem? (i := 302) (by decide +kernel)⟩
theorem lw_p1 : lw_okq (⟨"RoundPlans$Rounds", "findBack", "(II)I"⟩, 4) := ⟨⟨by decide +kernel, by decide +kernel⟩, List.mem_of_getElem? (i := 114) (by decide +kernel), List.mem_of_getElem? (i := 306) (by decide +kernel), List.mem_of_getElem? (i := 307) (by decide +kernel)⟩
theorem lw_p2 : lw_okq (⟨"RoundPlans$Rounds", "findReady", "(III)I"⟩, 4) := ⟨⟨by decide +kernel, by decide +kernel⟩, List.mem_of_getElem? (i := 114) (by decide +kernel), List.mem_of_getElem? (i := 311) (by decide +kernel), List.mem_of_getElem? (i := 312) (by decide +kernel)⟩
theorem lw_p3 : lw_okq (⟨"RoundPlans$Plans", "codeOfOnes", "(I)J"⟩, 5) := ⟨⟨by decide +kernel, by decide +kernel⟩, List.mem_of_getElem? (i := 133) (by decide +kernel), List.mem_of_getElem? (i := 330) (by decide +kernel), List.mem_of_getElem? (i := 331) (by decide +kernel)⟩
theorem lw_p4 : lw_okq (⟨"RoundPlans$Plans", "penaltiesOf", "(I)J"⟩, 5) := ⟨⟨by decide +kernel, by decide +kernel⟩, List.mem_of_getElem? (i := 133) (by decide +kernel), List.mem_of_getElem? (i := 338) (by decide +kernel), List.mem_of_getElem? (i := 339) (by decide +kernel)⟩
theorem lw_p5 : lw_okq (⟨"RoundPlans$Plans", "findPrice", "(IIJ)J"⟩, 5) := ⟨⟨by decide +kernel, by decide +kernel⟩, List.mem_of_getElem? (i := 133) (by decide +kernel), List.mem_of_getElem? (i := 343) (by decide +kernel), List.mem_of_getElem? (i := 344) (by decide +kernel)⟩
theorem lw_p6 : lw_okq (⟨"RoundPlans$Plans", "addRounds", "(II)V"⟩, 5) := ⟨⟨by decide +kernel, by decide +kernel⟩, List.mem_of_getElem? (i := 133) (by decide +kernel), List.mem_of_getElem? (i := 360) (by decide +kernel), List.mem_of_getElem? (i := 361) (by decide +kernel)⟩
theorem lw_p7 : lw_okq (⟨"RoundPlans$Plans", "leastWith", "(II)J"⟩, 5) := ⟨⟨by decide +kernel, by decide +kernel⟩, List.mem_of_getElem? (i := 133) (by decide +kernel), List.mem_of_getElem? (i := 364) (by decide +kernel), List.mem_of_getElem? (i := 365) (by decide +kernel)⟩
theorem lw_p8 : lw_okq (⟨"RoundPlans$Rounds", "findLatest", "(II)V"⟩, 4) := ⟨⟨by decide +kernel, by decide +kernel⟩, List.mem_of_getElem? (i := 114) (by decide +kernel), List.mem_of_getElem? (i := 394) (by decide +kernel), List.mem_of_getElem? (i := 395) (by decide +kernel)⟩
theorem lw_p9 : lw_okq (⟨"RoundPlans$Rounds", "findLatestAt", "(III)I"⟩, 4) := ⟨⟨by decide +kernel, by decide +kernel⟩, List.mem_of_getElem? (i := 114) (by decide +kernel), List.mem_of_getElem? (i := 398) (by decide +kernel), List.mem_of_getElem? (i := 399) (by decide +kernel)⟩
theorem lw_p10 : lw_okq (⟨"RoundPlans$Rounds", "firstInTime", "(III)I"⟩, 4) := ⟨⟨by decide +kernel, by decide +kernel⟩, List.mem_of_getElem? (i := 114) (by decide +kernel), List.mem_of_getElem? (i := 402) (by decide +kernel), List.mem_of_getElem? (i := 403) (by decide +kernel)⟩
theorem lw_p11 : lw_okq (⟨"RoundPlansModel", "isStop", "(I)Z"⟩, 28) := ⟨⟨by decide +kernel, by decide +kernel⟩, List.mem_of_getElem? (i := 449) (by decide +kernel), List.mem_of_getElem? (i := 554) (by decide +kernel), List.mem_of_getElem? (i := 555) (by decide +kernel)⟩
theorem lw_p12 : lw_okq (⟨"RoundPlansModel", "arePair", "(II)Z"⟩, 28) := ⟨⟨by decide +kernel, by decide +kernel⟩, List.mem_of_getElem? (i := 449) (by decide +kernel), List.mem_of_getElem? (i := 585) (by decide +kernel), List.mem_of_getElem? (i := 586) (by decide +kernel)⟩
theorem lw_p13 : lw_okq (⟨"RoundPlansModel", "leads", "(II)Z"⟩, 28) := ⟨⟨by decide +kernel, by decide +kernel⟩, List.mem_of_getElem? (i := 449) (by decide +kernel), List.mem_of_getElem? (i := 593) (by decide +kernel), List.mem_of_getElem? (i := 594) (by decide +kernel)⟩
theorem lw_p14 : lw_okq (⟨"RoundPlansModel", "driveAll", "(I)V"⟩, 28) := ⟨⟨by decide +kernel, by decide +kernel⟩, List.mem_of_getElem? (i := 449) (by decide +kernel), List.mem_of_getElem? (i := 601) (by decide +kernel), List.mem_of_getElem? (i := 602) (by decide +kernel)⟩
theorem lw_p15 : lw_okq (⟨"RoundPlansModel", "mayFollow", "(III)Z"⟩, 28) := ⟨⟨by decide +kernel, by decide +kernel⟩, List.mem_of_getElem? (i := 449) (by decide +kernel), List.mem_of_getElem? (i := 605) (by decide +kernel), List.mem_of_getElem? (i := 606) (by decide +kernel)⟩
def lw_privs_1 : List (MethodName × Nat) := [(⟨"RoundPlans$Rounds", "mayHave", "(II)Z"⟩, 4), (⟨"RoundPlans$Rounds", "findBack", "(II)I"⟩, 4), (⟨"RoundPlans$Rounds", "findReady", "(III)I"⟩, 4), (⟨"RoundPlans$Plans", "codeOfOnes", "(I)J"⟩, 5), (⟨"RoundPlans$Plans", "penaltiesOf", "(I)J"⟩, 5), (⟨"RoundPlans$Plans", "findPrice", "(IIJ)J"⟩, 5), (⟨"RoundPlans$Plans", "addRounds", "(II)V"⟩, 5), (⟨"RoundPlans$Plans", "leastWith", "(II)J"⟩, 5), (⟨"RoundPlans$Rounds", "findLatest", "(II)V"⟩, 4), (⟨"RoundPlans$Rounds", "findLatestAt", "(III)I"⟩, 4), (⟨"RoundPlans$Rounds", "firstInTime", "(III)I"⟩, 4), (⟨"RoundPlansModel", "isStop", "(I)Z"⟩, 28), (⟨"RoundPlansModel", "arePair", "(II)Z"⟩, 28), (⟨"RoundPlansModel", "leads", "(II)Z"⟩, 28), (⟨"RoundPlansModel", "driveAll", "(I)V"⟩, 28), (⟨"RoundPlansModel", "mayFollow", "(III)Z"⟩, 28)]
theorem lw_r1 : ∀ q ∈ lw_privs_1, lw_okq q := List.forall_mem_cons.mpr ⟨lw_p0, List.forall_mem_cons.mpr ⟨lw_p1, List.forall_mem_cons.mpr ⟨lw_p2, List.forall_mem_cons.mpr ⟨lw_p3, List.forall_mem_cons.mpr ⟨lw_p4, List.forall_mem_cons.mpr ⟨lw_p5, List.forall_mem_cons.mpr ⟨lw_p6, List.forall_mem_cons.mpr ⟨lw_p7, List.forall_mem_cons.mpr ⟨lw_p8, List.forall_mem_cons.mpr ⟨lw_p9, List.forall_mem_cons.mpr ⟨lw_p10, List.forall_mem_cons.mpr ⟨lw_p11, List.forall_mem_cons.mpr ⟨lw_p12, List.forall_mem_cons.mpr ⟨lw_p13, List.forall_mem_cons.mpr ⟨lw_p14, List.forall_mem_cons.mpr ⟨lw_p15, fun _ h => absurd h List.not_mem_nil⟩⟩⟩⟩⟩⟩⟩⟩⟩⟩⟩⟩⟩⟩⟩⟩
theorem lw_p16 : lw_okq (⟨"RoundPlansModel", "keep", "(II)V"⟩, 28) := ⟨⟨by decide +kernel, by decide +kernel⟩, List.mem_of_getElem? (i := 449) (by decide +kernel), List.mem_of_getElem? (i := 609) (by decide +kernel), List.mem_of_getElem? (i := 610) (by decide +kernel)⟩
theorem lw_p17 : lw_okq (⟨"RoundPlansModel", "drive", "(II)I"⟩, 28) := ⟨⟨by decide +kernel, by decide +kernel⟩, List.mem_of_getElem? (i := 449) (by decide +kernel), List.mem_of_getElem? (i := 613) (by decide +kernel), List.mem_of_getElem? (i := 614) (by decide +kernel)⟩
theorem lw_p18 : lw_okq (⟨"RoundPlansModel", "setOf", "(I)I"⟩, 28) := ⟨⟨by decide +kernel, by decide +kernel⟩, List.mem_of_getElem? (i := 449) (by decide +kernel), List.mem_of_getElem? (i := 617) (by decide +kernel), List.mem_of_getElem? (i := 618) (by decide +kernel)⟩
theorem lw_p19 : lw_okq (⟨"RoundPlansModel", "rowOf", "(I)I"⟩, 28) := ⟨⟨by decide +kernel, by decide +kernel⟩, List.mem_of_getElem? (i := 449) (by decide +kernel), List.mem_of_getElem? (i := 621) (by decide +kernel), List.mem_of_getElem? (i := 622) (by decide +kernel)⟩
theorem lw_p20 : lw_okq (⟨"RoundPlansModel", "bestPlan", "(I)I"⟩, 28) := ⟨⟨by decide +kernel, by decide +kernel⟩, List.mem_of_getElem? (i := 449) (by decide +kernel), List.mem_of_getElem? (i := 625) (by decide +kernel), List.mem_of_getElem? (i := 626) (by decide +kernel)⟩
theorem lw_p21 : lw_okq (⟨"RoundPlansModel", "costOf", "(II)J"⟩, 28) := ⟨⟨by decide +kernel, by decide +kernel⟩, List.mem_of_getElem? (i := 449) (by decide +kernel), List.mem_of_getElem? (i := 629) (by decide +kernel), List.mem_of_getElem? (i := 630) (by decide +kernel)⟩
theorem lw_p22 : lw_okq (⟨"RoundPlansModel", "setIn", "(II)I"⟩, 28) := ⟨⟨by decide +kernel, by decide +kernel⟩, List.mem_of_getElem? (i := 449) (by decide +kernel), List.mem_of_getElem? (i := 637) (by decide +kernel), List.mem_of_getElem? (i := 638) (by decide +kernel)⟩
theorem lw_p23 : lw_okq (⟨"RoundPlansModel", "tellRound", "(II)V"⟩, 28) := ⟨⟨by decide +kernel, by decide +kernel⟩, List.mem_of_getElem? (i := 449) (by decide +kernel), List.mem_of_getElem? (i := 641) (by decide +kernel), List.mem_of_getElem? (i := 642) (by decide +kernel)⟩
def lw_privs_2 : List (MethodName × Nat) := [(⟨"RoundPlansModel", "keep", "(II)V"⟩, 28), (⟨"RoundPlansModel", "drive", "(II)I"⟩, 28), (⟨"RoundPlansModel", "setOf", "(I)I"⟩, 28), (⟨"RoundPlansModel", "rowOf", "(I)I"⟩, 28), (⟨"RoundPlansModel", "bestPlan", "(I)I"⟩, 28), (⟨"RoundPlansModel", "costOf", "(II)J"⟩, 28), (⟨"RoundPlansModel", "setIn", "(II)I"⟩, 28), (⟨"RoundPlansModel", "tellRound", "(II)V"⟩, 28)]
theorem lw_r2 : ∀ q ∈ lw_privs_2, lw_okq q := List.forall_mem_cons.mpr ⟨lw_p16, List.forall_mem_cons.mpr ⟨lw_p17, List.forall_mem_cons.mpr ⟨lw_p18, List.forall_mem_cons.mpr ⟨lw_p19, List.forall_mem_cons.mpr ⟨lw_p20, List.forall_mem_cons.mpr ⟨lw_p21, List.forall_mem_cons.mpr ⟨lw_p22, List.forall_mem_cons.mpr ⟨lw_p23, fun _ h => absurd h List.not_mem_nil⟩⟩⟩⟩⟩⟩⟩⟩
def lw_privs : List (MethodName × Nat) := lw_privs_1 ++ (lw_privs_2)
def lw_tbl : List Cond := k2_sels lw_privs ++ tables_1
theorem lw_privs_ok : ∀ q ∈ lw_privs, lw_okq q := by
  show ∀ q ∈ lw_privs_1 ++ (lw_privs_2), lw_okq q
  exact List.forall_mem_append.mpr ⟨lw_r1, lw_r2⟩
/-- the tables' words that a call hands on -/
def zT : List Cond := lw_tbl.filter goodWord
theorem zT_of {x : Cond} (i : Nat) (h : tables_1[i]? = some x) (hg : goodWord x = true) : x ∈ zT := List.mem_filter.mpr ⟨List.mem_append_right _ (List.mem_of_getElem? h), hg⟩
theorem zT_sel {x : Cond} (i : Nat) (h : (k2_sels lw_privs)[i]? = some x) (hg : goodWord x = true) : x ∈ zT := List.mem_filter.mpr ⟨List.mem_append_left _ (List.mem_of_getElem? h), hg⟩
end
section
/-! NUMBERS: a Java int, a Java long out of a mathematical one -/
def zI (z : Int) : Int32 := Int32.ofInt z
def zL (z : Int) : Int64 := Int64.ofInt z
def rI (z : Int) : Prop := -2147483648 ≤ z ∧ z ≤ 2147483647
def rL (z : Int) : Prop := -9223372036854775808 ≤ z ∧ z ≤ 9223372036854775807
theorem rI_0 : rI 0 := ⟨by decide, by decide⟩
theorem rI_1 : rI 1 := ⟨by decide, by decide⟩
theorem zI_toInt {z : Int} (h : rI z) : (zI z).toInt = z := Int32.toInt_ofInt_of_le (by have := h.1; omega) (by have := h.2; omega)
theorem zL_toInt {z : Int} (h : rL z) : (zL z).toInt = z := Int64.toInt_ofInt_of_le (by have := h.1; omega) (by have := h.2; omega)
theorem zI_add (a b : Int) : zI a + zI b = zI (a + b) := (Int32.ofInt_add a b).symm
theorem zI_sub (a b : Int) : zI a - zI b = zI (a - b) := (Int32.ofInt_sub a b).symm
theorem zI_mul (a b : Int) : zI a * zI b = zI (a * b) := (Int32.ofInt_mul a b).symm
theorem zL_add (a b : Int) : zL a + zL b = zL (a + b) := (Int64.ofInt_add a b).symm
theorem zL_sub (a b : Int) : zL a - zL b = zL (a - b) := (Int64.ofInt_sub a b).symm
theorem zL_mul (a b : Int) : zL a * zL b = zL (a * b) := (Int64.ofInt_mul a b).symm
theorem zI_le {a b : Int} (ha : rI a) (hb : rI b) : zI a ≤ zI b ↔ a ≤ b := by rw [Int32.le_iff_toInt_le, zI_toInt ha, zI_toInt hb]
theorem zI_lt {a b : Int} (ha : rI a) (hb : rI b) : zI a < zI b ↔ a < b := by rw [Int32.lt_iff_toInt_lt, zI_toInt ha, zI_toInt hb]
theorem zI_eq {a b : Int} (ha : rI a) (hb : rI b) : zI a = zI b ↔ a = b := by rw [← Int32.toInt_inj, zI_toInt ha, zI_toInt hb]
theorem zL_le {a b : Int} (ha : rL a) (hb : rL b) : zL a ≤ zL b ↔ a ≤ b := by rw [Int64.le_iff_toInt_le, zL_toInt ha, zL_toInt hb]
theorem zL_lt {a b : Int} (ha : rL a) (hb : rL b) : zL a < zL b ↔ a < b := by rw [Int64.lt_iff_toInt_lt, zL_toInt ha, zL_toInt hb]
theorem zL_eq {a b : Int} (ha : rL a) (hb : rL b) : zL a = zL b ↔ a = b := by rw [← Int64.toInt_inj, zL_toInt ha, zL_toInt hb]
theorem zI_nat (n : Nat) : zI (n : Int) = nI n := Int32.ofInt_eq_ofNat
theorem zL_nat (n : Nat) : zL (n : Int) = lN n := Int64.ofInt_eq_ofNat
theorem zI_of (x : Int32) : x = zI x.toInt := (Int32.ofInt_toInt x).symm
theorem zL_of (x : Int64) : x = zL x.toInt := (Int64.ofInt_toInt x).symm
theorem rI_of (x : Int32) : rI x.toInt := ⟨by have := x.le_toInt; omega, by have := x.toInt_lt; omega⟩
theorem rL_of (x : Int64) : rL x.toInt := ⟨by have := x.le_toInt; omega, by have := x.toInt_lt; omega⟩
theorem zI_i2l {z : Int} (h : rI z) : (zI z).toInt64 = zL z := by
  rw [← Int64.ofInt_int32ToInt, zI_toInt h]; rfl
theorem zL_l2i {z : Int} (h : rL z) : (zL z).toInt32 = zI z := by
  rw [← Int32.ofInt_int64ToInt, zL_toInt h]; rfl
theorem zI_cl {n : Nat} (h : n < 2 ^ 31) : (zI (n : Int)).toNatClampNeg = n := by rw [zI_nat]; exact nI_clamp h
theorem zI_in {i n : Nat} (h : i < n) (hn : n < 2 ^ 31) : vp_in (zI (i : Int)) n := by rw [zI_nat]; exact vp_in_nI h hn
theorem zI_and (a b : Nat) : zI (a : Int) &&& zI (b : Int) = zI ((a &&& b : Nat) : Int) := by
  rw [zI_nat, zI_nat, zI_nat]; unfold nI; apply Int32.toBitVec.inj; simp
theorem zI_or (a b : Nat) : zI (a : Int) ||| zI (b : Int) = zI ((a ||| b : Nat) : Int) := by
  rw [zI_nat, zI_nat, zI_nat]; unfold nI; apply Int32.toBitVec.inj; simp
theorem zI_xor (a b : Nat) : zI (a : Int) ^^^ zI (b : Int) = zI ((a ^^^ b : Nat) : Int) := by
  rw [zI_nat, zI_nat, zI_nat]; unfold nI; apply Int32.toBitVec.inj; simp
theorem zI_sl : ∀ k, k < 32 → ((zI ((k : Nat) : Int) &&& 31).toBitVec.smod 32).toNat = k := by
  intro k hk
  rw [zI_nat]
  revert k; decide +kernel
theorem zI_shl {n k : Nat} (hk : k < 32) (h : n * 2 ^ k < 2 ^ 32) : zI (n : Int) <<< (zI (k : Int) &&& 31) = zI ((n * 2 ^ k : Nat) : Int) := by
  rw [zI_nat n, zI_nat (n * 2 ^ k)]
  exact pk_shlN _ k (zI_sl k hk) h
theorem zI_shr {n k : Nat} (hk : k < 32) (h : n < 2 ^ 31) : zI (n : Int) >>> (zI (k : Int) &&& 31) = zI ((n / 2 ^ k : Nat) : Int) := by
  rw [zI_nat n, zI_nat (n / 2 ^ k)]
  exact pk_shrN h _ k (zI_sl k hk)
/-! THE STORE: every cell that lives on, by its number; its contents are numbers -/
/-- addresses, class numbers, the classes of int[] (0), long[] (1), boolean[] (2) -/
abbrev zW : Type := (Nat → Nat) × va_G × (Nat → ClassId)
/-- how many cells; of each: 0 int[], 1 long[], 2 boolean[], k + 3 an object of class k; its length; its fields (0 int, 1 long, 2 a cell) ; and the links to nest mates that the walks use -/
abbrev zY : Type := Nat × (Nat → Nat × Nat × List (Nat × Nat)) × List (String × Nat × MethodName × String)
def zF (q : Nat → Nat) (f : Nat → Int) (j : Nat) (t : Nat × Nat) : Value := match t.1 with
  | 0 => .int (zI (f j))
  | 1 => .long (zL (f j))
  | _ => .ref (q t.2)
def zE (w : zW) (d : Nat × Nat × List (Nat × Nat)) (f : Nat → Int) : va_E := match d.1 with
  | 0 => .inl ((w.2.2 0), d.2.1, .inl (fun j => zI (f j)))
  | 1 => .inl ((w.2.2 1), d.2.1, .inr (.inl (fun j => zL (f j))))
  | 2 => .inl (w.2.2 2, d.2.1, .inl (fun j => zI (f j)))
  | k + 3 => .inr (k, d.2.2.mapIdx (zF w.1 f))
def zX (w : zW) (L : zY) (σ : Nat → Nat → Int) : va_W := (List.range L.1).map fun k => (w.1 k, zE w (L.2.1 k) (σ k))
def zA (w : zW) (N sz : Nat) : Nat → Prop := fun a => (∃ k, k < N ∧ a = w.1 k) ∨ sz ≤ a
def zN (w : zW) (N : Nat) : Prop := ∀ i j, i < N → j < N → w.1 i = w.1 j → i = j
/-- one place of a cell anew; a whole cell anew -/
def zU (σ : Nat → Nat → Int) (k j : Nat) (v : Int) : Nat → Nat → Int := fun k' j' => if k' = k ∧ j' = j then v else σ k' j'
def zUA (σ : Nat → Nat → Int) (k : Nat) (f : Nat → Int) : Nat → Nat → Int := fun k' => if k' = k then f else σ k'
theorem zU_ne {σ : Nat → Nat → Int} {k j : Nat} {v : Int} {k' : Nat} (h : k' ≠ k) : zU σ k j v k' = σ k' := by
  funext j'; simp [zU, h]
theorem zU_self {σ : Nat → Nat → Int} {k j : Nat} {v : Int} : zU σ k j v k j = v := by simp [zU]
theorem zU_nj {σ : Nat → Nat → Int} {k j j' : Nat} {v : Int} (h : j' ≠ j) : zU σ k j v k j' = σ k j' := by simp [zU, h]
theorem zUA_ne {σ : Nat → Nat → Int} {k : Nat} {f : Nat → Int} {k' : Nat} (h : k' ≠ k) : zUA σ k f k' = σ k' := by simp [zUA, h]
theorem zUA_self {σ : Nat → Nat → Int} {k : Nat} {f : Nat → Int} : zUA σ k f k = f := by simp [zUA]
theorem zX_get {w : zW} {L : zY} {σ : Nat → Nat → Int} {k : Nat} (h : k < L.1) : (zX w L σ)[k]? = some (w.1 k, zE w (L.2.1 k) (σ k)) := by
  simp [zX, h]
theorem zX_of {w : zW} {L : zY} {σ : Nat → Nat → Int} {k : Nat} {x : Nat × va_E} (h : (zX w L σ)[k]? = some x) : k < L.1 ∧ x = (w.1 k, zE w (L.2.1 k) (σ k)) := by
  have hk : k < L.1 := by
    have := (List.getElem?_eq_some_iff.mp h).1
    simpa [zX] using this
  rw [zX_get hk] at h
  exact ⟨hk, (Option.some.inj h).symm⟩
theorem zX_D {w : zW} {L : zY} {σ : Nat → Nat → Int} {sz : Nat} (h : zN w L.1) : va_D (zA w L.1 sz) (zX w L σ) := by
  refine ⟨fun i j x y hx hy hxy => ?_, fun k x hx => ?_⟩
  · obtain ⟨hi, rfl⟩ := zX_of hx
    obtain ⟨hj, rfl⟩ := zX_of hy
    exact h i j hi hj hxy
  · obtain ⟨hk, rfl⟩ := zX_of hx
    exact Or.inl ⟨k, hk, rfl⟩
theorem zX_set {w : zW} {L : zY} {σ σ' : Nat → Nat → Int} {k : Nat} {x : va_E} (hx : x = zE w (L.2.1 k) (σ' k)) (hne : ∀ k', k' ≠ k → σ' k' = σ k') : (zX w L σ).set k (w.1 k, x) = zX w L σ' := by
  subst hx
  apply List.ext_getElem?
  intro i
  by_cases hik : i = k
  · subst hik
    by_cases hi : i < L.1
    · rw [List.getElem?_set_self (by simpa [zX] using hi), zX_get hi]
    · rw [List.getElem?_eq_none (by simpa [zX] using hi), List.getElem?_eq_none (by simpa [zX] using hi)]
  · rw [List.getElem?_set_ne (Ne.symm hik)]
    by_cases hi : i < L.1
    · rw [zX_get hi, zX_get hi, hne i hik]
    · rw [List.getElem?_eq_none (by simpa [zX] using hi), List.getElem?_eq_none (by simpa [zX] using hi)]
theorem zA_mono {w : zW} {N a b : Nat} (h : a ≤ b) {x : Nat} (hx : zA w N b x) : zA w N a x := by
  rcases hx with hx | hx
  · exact Or.inl hx
  · exact Or.inr (Nat.le_trans h hx)
def zK (L : zY) (U : State) : Prop := ∀ q ∈ L.2.2, va_Nw (.methodLinkNest q.1 q.2.1 q.2.2.1 q.2.2.2) U
/-- what a method's walk knows all along -/
def zC (p : Program) (s : State) (m : MethodId) (args : Array Value) (meth : Method) (c : Code) (cc : ByteArray) (nL : Nat) (own : String) (w : zW) (L : zY) (cl : List vw_C) : Prop :=
  p.tables.exec = Jvm.exec ∧ c.code = cc ∧ c.maxLocals = nL ∧ s.vm.findClass own = some m.cls ∧ (∀ x ∈ zT, x.before args s = true) ∧ va_K w.2.1 cl [(w.2.2 0, .int), (w.2.2 1, .long), (w.2.2 2, .boolean)] s ∧ zN w L.1 ∧ meth.locks = false ∧ zK L s
/-- from this place, these locals, this stack, this store, the machine comes to Q -/
def V (p : Program) (l : Launch) (e : Env) (R : Room) (s : State) (m : MethodId) (args : Array Value) (below : List Frame) (meth : Method) (c : Code) (nL : Nat) (w : zW) (L : zY) (cl : List vw_C) (kc ks : Nat) (Q : State → Prop) (pc : Nat) (lv : List (Nat × Value)) (st : List Value) (σ : Nat → Nat → Int) : Prop :=
  ∀ (ls : Array Slot) (H : Heap) (locs : List Loc), lv_has ls nL lv → va_P w.2.1 cl (zX w L σ) H → va_S (zA w L.1 s.heap.size) s.heap H locs → W p l e R s m args below meth c H locs kc ks Q (F0 m pc ls st)
section ZV
variable {p : Program} {l : Launch} {e : Env} {R : Room} {s : State} {m : MethodId} {args : Array Value} {below : List Frame} {meth : Method} {c : Code} {nL : Nat} {w : zW} {L : zY} {cl : List vw_C} {kc ks : Nat} {Q : State → Prop} {cc : ByteArray} {own : String} {pc : Nat} {lv lv' : List (Nat × Value)} {st : List Value} {σ : Nat → Nat → Int}
theorem V_iconst (C : zC p s m args meth c cc nL own w L cl) {n : Int} (hd : decode cc pc = .ok (.iconst n, 1)) (k : V p l e R s m args below meth c nL w L cl kc ks Q (pc + 1) lv (.int (zI n) :: st) σ) : V p l e R s m args below meth c nL w L cl kc ks Q pc lv st σ :=
  fun ls H locs hl hP hS => lv_iconst C.1 C.2.1 hd rfl (k ls H locs hl hP hS)
theorem V_bipush (C : zC p s m args meth c cc nL own w L cl) {n : Int} (hd : decode cc pc = .ok (.bipush n, 2)) (hv : (Int8.ofInt n).toInt32 = zI n) (k : V p l e R s m args below meth c nL w L cl kc ks Q (pc + 2) lv (.int (zI n) :: st) σ) : V p l e R s m args below meth c nL w L cl kc ks Q pc lv st σ :=
  fun ls H locs hl hP hS => lv_bipush C.1 C.2.1 hd hv (k ls H locs hl hP hS)
theorem V_sipush (C : zC p s m args meth c cc nL own w L cl) {n : Int} (hd : decode cc pc = .ok (.sipush n, 3)) (hv : (Int16.ofInt n).toInt32 = zI n) (k : V p l e R s m args below meth c nL w L cl kc ks Q (pc + 3) lv (.int (zI n) :: st) σ) : V p l e R s m args below meth c nL w L cl kc ks Q pc lv st σ :=
  fun ls H locs hl hP hS => lv_sipush C.1 C.2.1 hd hv (k ls H locs hl hP hS)
theorem V_lconst (C : zC p s m args meth c cc nL own w L cl) {n : Fin 2} (z : Int) (hd : decode cc pc = .ok (.lconst n, 1)) (hv : Int64.ofNat (n : Nat) = zL z) (k : V p l e R s m args below meth c nL w L cl kc ks Q (pc + 1) lv (.long (zL z) :: st) σ) : V p l e R s m args below meth c nL w L cl kc ks Q pc lv st σ :=
  fun ls H locs hl hP hS => lv_lconst C.1 C.2.1 hd hv (k ls H locs hl hP hS)
theorem V_ldc (C : zC p s m args meth c cc nL own w L cl) {ix : Nat} (z : Int) (hd : decode cc pc = .ok (.ldc ix, 2)) (hc : Jvm.Cond.constant own ix (zI z) ∈ zT) (k : V p l e R s m args below meth c nL w L cl kc ks Q (pc + 2) lv (.int (zI z) :: st) σ) : V p l e R s m args below meth c nL w L cl kc ks Q pc lv st σ :=
  fun ls H locs hl hP hS => lv_ldc C.1 C.2.1 C.2.2.2.1 (C.2.2.2.2.1 _ hc) hd (k ls H locs hl hP hS)
theorem V_ldc2 (C : zC p s m args meth c cc nL own w L cl) {ix : Nat} (z : Int) (hd : decode cc pc = .ok (.ldc2_w ix, 3)) (hc : Jvm.Cond.constantLong own ix (zL z) ∈ zT) (k : V p l e R s m args below meth c nL w L cl kc ks Q (pc + 3) lv (.long (zL z) :: st) σ) : V p l e R s m args below meth c nL w L cl kc ks Q pc lv st σ :=
  fun ls H locs hl hP hS => lv_ldc2 C.1 C.2.1 C.2.2.2.1 (C.2.2.2.2.1 _ hc) hd (k ls H locs hl hP hS)
theorem V_iload (C : zC p s m args meth c cc nL own w L cl) {i : Nat} {x : Int32} (hd : decode cc pc = .ok (.iload i, 2)) (k0 : Nat) (hk : lv[k0]? = some (i, .int x)) (k : V p l e R s m args below meth c nL w L cl kc ks Q (pc + 2) lv (.int x :: st) σ) : V p l e R s m args below meth c nL w L cl kc ks Q pc lv st σ :=
  fun ls H locs hl hP hS => lv_iload C.1 C.2.1 hd (lv_at hl k0 hk) (k ls H locs hl hP hS)
theorem V_iload_n (C : zC p s m args meth c cc nL own w L cl) {i : Fin 4} {x : Int32} (hd : decode cc pc = .ok (.iload_n i, 1)) (k0 : Nat) (hk : lv[k0]? = some ((i : Nat), .int x)) (k : V p l e R s m args below meth c nL w L cl kc ks Q (pc + 1) lv (.int x :: st) σ) : V p l e R s m args below meth c nL w L cl kc ks Q pc lv st σ :=
  fun ls H locs hl hP hS => lv_iload_n C.1 C.2.1 hd rfl (lv_at hl k0 hk) (k ls H locs hl hP hS)
theorem V_lload (C : zC p s m args meth c cc nL own w L cl) {i : Nat} {x : Int64} (hd : decode cc pc = .ok (.lload i, 2)) (k0 : Nat) (hk : lv[k0]? = some (i, .long x)) (k : V p l e R s m args below meth c nL w L cl kc ks Q (pc + 2) lv (.long x :: st) σ) : V p l e R s m args below meth c nL w L cl kc ks Q pc lv st σ :=
  fun ls H locs hl hP hS => lv_lload C.1 C.2.1 hd (lv_at hl k0 hk) (k ls H locs hl hP hS)
theorem V_lload_n (C : zC p s m args meth c cc nL own w L cl) {i : Fin 4} {x : Int64} (hd : decode cc pc = .ok (.lload_n i, 1)) (k0 : Nat) (hk : lv[k0]? = some ((i : Nat), .long x)) (k : V p l e R s m args below meth c nL w L cl kc ks Q (pc + 1) lv (.long x :: st) σ) : V p l e R s m args below meth c nL w L cl kc ks Q pc lv st σ :=
  fun ls H locs hl hP hS => lv_lload_n C.1 C.2.1 hd rfl (lv_at hl k0 hk) (k ls H locs hl hP hS)
theorem V_aload (C : zC p s m args meth c cc nL own w L cl) {i x : Nat} (hd : decode cc pc = .ok (.aload i, 2)) (k0 : Nat) (hk : lv[k0]? = some (i, .ref x)) (k : V p l e R s m args below meth c nL w L cl kc ks Q (pc + 2) lv (.ref x :: st) σ) : V p l e R s m args below meth c nL w L cl kc ks Q pc lv st σ :=
  fun ls H locs hl hP hS => lv_aload C.1 C.2.1 hd (lv_at hl k0 hk) (k ls H locs hl hP hS)
theorem V_aload_n (C : zC p s m args meth c cc nL own w L cl) {i : Fin 4} {x : Nat} (hd : decode cc pc = .ok (.aload_n i, 1)) (k0 : Nat) (hk : lv[k0]? = some ((i : Nat), .ref x)) (k : V p l e R s m args below meth c nL w L cl kc ks Q (pc + 1) lv (.ref x :: st) σ) : V p l e R s m args below meth c nL w L cl kc ks Q pc lv st σ :=
  fun ls H locs hl hP hS => lv_aload_n C.1 C.2.1 hd rfl (lv_at hl k0 hk) (k ls H locs hl hP hS)
theorem V_istore (C : zC p s m args meth c cc nL own w L cl) {i : Nat} {x : Int32} (hd : decode cc pc = .ok (.istore i, 2)) (hn : i < nL) (hl : (i, Value.int x) :: lv.filter (fun q => !(q.1 == i) && !(q.1 + 1 == i && q.2.category == 2)) = lv') (k : V p l e R s m args below meth c nL w L cl kc ks Q (pc + 2) lv' st σ) : V p l e R s m args below meth c nL w L cl kc ks Q pc lv (.int x :: st) σ :=
  fun ls H locs hls hP hS => lv_istore C.1 C.2.1 hd hls hn hl (fun ls' hl' => k ls' H locs hl' hP hS)
theorem V_istore_n (C : zC p s m args meth c cc nL own w L cl) {i : Fin 4} {x : Int32} (hd : decode cc pc = .ok (.istore_n i, 1)) (hn : (i : Nat) < nL) (hl : ((i : Nat), Value.int x) :: lv.filter (fun q => !(q.1 == (i : Nat)) && !(q.1 + 1 == (i : Nat) && q.2.category == 2)) = lv') (k : V p l e R s m args below meth c nL w L cl kc ks Q (pc + 1) lv' st σ) : V p l e R s m args below meth c nL w L cl kc ks Q pc lv (.int x :: st) σ :=
  fun ls H locs hls hP hS => lv_istore_n C.1 C.2.1 hd rfl hls hn hl (fun ls' hl' => k ls' H locs hl' hP hS)
theorem V_lstore (C : zC p s m args meth c cc nL own w L cl) {i : Nat} {x : Int64} (hd : decode cc pc = .ok (.lstore i, 2)) (hn : i + 1 < nL) (hl : (i, Value.long x) :: lv.filter (fun q => !(q.1 == i) && (!(q.1 == i + 1) && !(q.1 + 1 == i && q.2.category == 2))) = lv') (k : V p l e R s m args below meth c nL w L cl kc ks Q (pc + 2) lv' st σ) : V p l e R s m args below meth c nL w L cl kc ks Q pc lv (.long x :: st) σ :=
  fun ls H locs hls hP hS => lv_lstore C.1 C.2.1 hd hls hn hl (fun ls' hl' => k ls' H locs hl' hP hS)
theorem V_lstore_n (C : zC p s m args meth c cc nL own w L cl) {i : Fin 4} {x : Int64} (hd : decode cc pc = .ok (.lstore_n i, 1)) (hn : (i : Nat) + 1 < nL) (hl : ((i : Nat), Value.long x) :: lv.filter (fun q => !(q.1 == (i : Nat)) && (!(q.1 == (i : Nat) + 1) && !(q.1 + 1 == (i : Nat) && q.2.category == 2))) = lv') (k : V p l e R s m args below meth c nL w L cl kc ks Q (pc + 1) lv' st σ) : V p l e R s m args below meth c nL w L cl kc ks Q pc lv (.long x :: st) σ :=
  fun ls H locs hls hP hS => lv_lstore_n C.1 C.2.1 hd rfl hls hn hl (fun ls' hl' => k ls' H locs hl' hP hS)
theorem V_iinc (C : zC p s m args meth c cc nL own w L cl) {i : Nat} {n z : Int} (hd : decode cc pc = .ok (.iinc i n, 3)) (k0 : Nat) (hk : lv[k0]? = some (i, .int (zI z))) (hn : i < nL) (hl : (i, Value.int (zI (z + n))) :: lv.filter (fun q => !(q.1 == i) && !(q.1 + 1 == i && q.2.category == 2)) = lv') (k : V p l e R s m args below meth c nL w L cl kc ks Q (pc + 3) lv' st σ) : V p l e R s m args below meth c nL w L cl kc ks Q pc lv st σ :=
  fun ls H locs hls hP hS => lv_iinc C.1 C.2.1 hd hls hk (zI_add z n) hn hl (fun ls' hl' => k ls' H locs hl' hP hS)
theorem V_iadd (C : zC p s m args meth c cc nL own w L cl) {a b : Int} (hd : decode cc pc = .ok (.iadd, 1)) (k : V p l e R s m args below meth c nL w L cl kc ks Q (pc + 1) lv (.int (zI (a + b)) :: st) σ) : V p l e R s m args below meth c nL w L cl kc ks Q pc lv (.int (zI b) :: .int (zI a) :: st) σ :=
  fun ls H locs hl hP hS => lv_iadd C.1 C.2.1 hd (by rw [zI_add]; exact k ls H locs hl hP hS)
theorem V_isub (C : zC p s m args meth c cc nL own w L cl) {a b : Int} (hd : decode cc pc = .ok (.isub, 1)) (k : V p l e R s m args below meth c nL w L cl kc ks Q (pc + 1) lv (.int (zI (a - b)) :: st) σ) : V p l e R s m args below meth c nL w L cl kc ks Q pc lv (.int (zI b) :: .int (zI a) :: st) σ :=
  fun ls H locs hl hP hS => lv_isub C.1 C.2.1 hd (by rw [zI_sub]; exact k ls H locs hl hP hS)
theorem V_imul (C : zC p s m args meth c cc nL own w L cl) {a b : Int} (hd : decode cc pc = .ok (.imul, 1)) (k : V p l e R s m args below meth c nL w L cl kc ks Q (pc + 1) lv (.int (zI (a * b)) :: st) σ) : V p l e R s m args below meth c nL w L cl kc ks Q pc lv (.int (zI b) :: .int (zI a) :: st) σ :=
  fun ls H locs hl hP hS => lv_imul C.1 C.2.1 hd (by rw [zI_mul]; exact k ls H locs hl hP hS)
theorem V_ladd (C : zC p s m args meth c cc nL own w L cl) {a b : Int} (hd : decode cc pc = .ok (.ladd, 1)) (k : V p l e R s m args below meth c nL w L cl kc ks Q (pc + 1) lv (.long (zL (a + b)) :: st) σ) : V p l e R s m args below meth c nL w L cl kc ks Q pc lv (.long (zL b) :: .long (zL a) :: st) σ :=
  fun ls H locs hl hP hS => lv_ladd C.1 C.2.1 hd (by rw [zL_add]; exact k ls H locs hl hP hS)
theorem V_lsub (C : zC p s m args meth c cc nL own w L cl) {a b : Int} (hd : decode cc pc = .ok (.lsub, 1)) (k : V p l e R s m args below meth c nL w L cl kc ks Q (pc + 1) lv (.long (zL (a - b)) :: st) σ) : V p l e R s m args below meth c nL w L cl kc ks Q pc lv (.long (zL b) :: .long (zL a) :: st) σ :=
  fun ls H locs hl hP hS => lv_lsub C.1 C.2.1 hd (by rw [zL_sub]; exact k ls H locs hl hP hS)
theorem V_lmul (C : zC p s m args meth c cc nL own w L cl) {a b : Int} (hd : decode cc pc = .ok (.lmul, 1)) (k : V p l e R s m args below meth c nL w L cl kc ks Q (pc + 1) lv (.long (zL (a * b)) :: st) σ) : V p l e R s m args below meth c nL w L cl kc ks Q pc lv (.long (zL b) :: .long (zL a) :: st) σ :=
  fun ls H locs hl hP hS => lv_lmul C.1 C.2.1 hd (by rw [zL_mul]; exact k ls H locs hl hP hS)
/-- a bit operation, with its value as a number given -/
theorem V_iand (C : zC p s m args meth c cc nL own w L cl) {x y : Int32} (z : Int) (hd : decode cc pc = .ok (.iand, 1)) (hz : x &&& y = zI z) (k : V p l e R s m args below meth c nL w L cl kc ks Q (pc + 1) lv (.int (zI z) :: st) σ) : V p l e R s m args below meth c nL w L cl kc ks Q pc lv (.int y :: .int x :: st) σ :=
  fun ls H locs hl hP hS => lv_iand C.1 C.2.1 hd (by rw [hz]; exact k ls H locs hl hP hS)
theorem V_ior (C : zC p s m args meth c cc nL own w L cl) {x y : Int32} (z : Int) (hd : decode cc pc = .ok (.ior, 1)) (hz : x ||| y = zI z) (k : V p l e R s m args below meth c nL w L cl kc ks Q (pc + 1) lv (.int (zI z) :: st) σ) : V p l e R s m args below meth c nL w L cl kc ks Q pc lv (.int y :: .int x :: st) σ :=
  fun ls H locs hl hP hS => lv_ior C.1 C.2.1 hd (by rw [hz]; exact k ls H locs hl hP hS)
theorem V_ixor (C : zC p s m args meth c cc nL own w L cl) {x y : Int32} (z : Int) (hd : decode cc pc = .ok (.ixor, 1)) (hz : x ^^^ y = zI z) (k : V p l e R s m args below meth c nL w L cl kc ks Q (pc + 1) lv (.int (zI z) :: st) σ) : V p l e R s m args below meth c nL w L cl kc ks Q pc lv (.int y :: .int x :: st) σ :=
  fun ls H locs hl hP hS => lv_ixor C.1 C.2.1 hd (by rw [hz]; exact k ls H locs hl hP hS)
theorem V_ishl (C : zC p s m args meth c cc nL own w L cl) {x y : Int32} (z : Int) (hd : decode cc pc = .ok (.ishl, 1)) (hz : x <<< (y &&& 31) = zI z) (k : V p l e R s m args below meth c nL w L cl kc ks Q (pc + 1) lv (.int (zI z) :: st) σ) : V p l e R s m args below meth c nL w L cl kc ks Q pc lv (.int y :: .int x :: st) σ :=
  fun ls H locs hl hP hS => lv_ishl C.1 C.2.1 hd (by rw [hz]; exact k ls H locs hl hP hS)
theorem V_ishr (C : zC p s m args meth c cc nL own w L cl) {x y : Int32} (z : Int) (hd : decode cc pc = .ok (.ishr, 1)) (hz : x >>> (y &&& 31) = zI z) (k : V p l e R s m args below meth c nL w L cl kc ks Q (pc + 1) lv (.int (zI z) :: st) σ) : V p l e R s m args below meth c nL w L cl kc ks Q pc lv (.int y :: .int x :: st) σ :=
  fun ls H locs hl hP hS => lv_ishr C.1 C.2.1 hd (by rw [hz]; exact k ls H locs hl hP hS)
theorem V_iushr (C : zC p s m args meth c cc nL own w L cl) {x y : Int32} (z : Int) (hd : decode cc pc = .ok (.iushr, 1)) (hz : (x.toUInt32 >>> (y.toUInt32 &&& Int32.toUInt32 31)).toInt32 = zI z) (k : V p l e R s m args below meth c nL w L cl kc ks Q (pc + 1) lv (.int (zI z) :: st) σ) : V p l e R s m args below meth c nL w L cl kc ks Q pc lv (.int y :: .int x :: st) σ :=
  fun ls H locs hl hP hS => lv_iushr C.1 C.2.1 hd hz (k ls H locs hl hP hS)
theorem V_lshl (C : zC p s m args meth c cc nL own w L cl) {x : Int64} {y : Int32} (z : Int) (hd : decode cc pc = .ok (.lshl, 1)) (hz : x <<< (y.toInt64 &&& 63) = zL z) (k : V p l e R s m args below meth c nL w L cl kc ks Q (pc + 1) lv (.long (zL z) :: st) σ) : V p l e R s m args below meth c nL w L cl kc ks Q pc lv (.int y :: .long x :: st) σ :=
  fun ls H locs hl hP hS => lv_lshl C.1 C.2.1 hd hz (k ls H locs hl hP hS)
theorem V_lshr (C : zC p s m args meth c cc nL own w L cl) {x : Int64} {y : Int32} (z : Int) (hd : decode cc pc = .ok (.lshr, 1)) (hz : x >>> (y.toInt64 &&& 63) = zL z) (k : V p l e R s m args below meth c nL w L cl kc ks Q (pc + 1) lv (.long (zL z) :: st) σ) : V p l e R s m args below meth c nL w L cl kc ks Q pc lv (.int y :: .long x :: st) σ :=
  fun ls H locs hl hP hS => lv_lshr C.1 C.2.1 hd hz (k ls H locs hl hP hS)
theorem V_i2l (C : zC p s m args meth c cc nL own w L cl) {z : Int} (hd : decode cc pc = .ok (.i2l, 1)) (hz : rI z) (k : V p l e R s m args below meth c nL w L cl kc ks Q (pc + 1) lv (.long (zL z) :: st) σ) : V p l e R s m args below meth c nL w L cl kc ks Q pc lv (.int (zI z) :: st) σ :=
  fun ls H locs hl hP hS => lv_i2l C.1 C.2.1 hd (zI_i2l hz) (k ls H locs hl hP hS)
theorem V_l2i (C : zC p s m args meth c cc nL own w L cl) {z : Int} (hd : decode cc pc = .ok (.l2i, 1)) (hz : rL z) (k : V p l e R s m args below meth c nL w L cl kc ks Q (pc + 1) lv (.int (zI z) :: st) σ) : V p l e R s m args below meth c nL w L cl kc ks Q pc lv (.long (zL z) :: st) σ :=
  fun ls H locs hl hP hS => lv_l2i C.1 C.2.1 hd (zL_l2i hz) (k ls H locs hl hP hS)
theorem V_dup (C : zC p s m args meth c cc nL own w L cl) {v : Value} (hd : decode cc pc = .ok (.dup, 1)) (hv : v.category = 1) (k : V p l e R s m args below meth c nL w L cl kc ks Q (pc + 1) lv (v :: v :: st) σ) : V p l e R s m args below meth c nL w L cl kc ks Q pc lv (v :: st) σ :=
  fun ls H locs hl hP hS => lv_dup C.1 C.2.1 hd hv (k ls H locs hl hP hS)
theorem V_dup2 (C : zC p s m args meth c cc nL own w L cl) {v u : Value} (hd : decode cc pc = .ok (.dup2, 1)) (hv : v.category = 1) (hu : u.category = 1) (k : V p l e R s m args below meth c nL w L cl kc ks Q (pc + 1) lv (v :: u :: v :: u :: st) σ) : V p l e R s m args below meth c nL w L cl kc ks Q pc lv (v :: u :: st) σ :=
  fun ls H locs hl hP hS => lv_dup2_11 C.1 C.2.1 hd hv hu (k ls H locs hl hP hS)
theorem V_pop (C : zC p s m args meth c cc nL own w L cl) {v : Value} (hd : decode cc pc = .ok (.pop, 1)) (hv : v.category = 1) (k : V p l e R s m args below meth c nL w L cl kc ks Q (pc + 1) lv st σ) : V p l e R s m args below meth c nL w L cl kc ks Q pc lv (v :: st) σ :=
  fun ls H locs hl hP hS => lv_pop C.1 C.2.1 hd hv (k ls H locs hl hP hS)
theorem V_goto (C : zC p s m args meth c cc nL own w L cl) {off : Int} (tgt : Nat) (hd : decode cc pc = .ok (.goto off, 3)) (ht : (pc : Int) + off = (tgt : Int)) (k : V p l e R s m args below meth c nL w L cl kc ks Q tgt lv st σ) : V p l e R s m args below meth c nL w L cl kc ks Q pc lv st σ :=
  fun ls H locs hl hP hS => lv_goto C.1 C.2.1 hd ht (k ls H locs hl hP hS)
/-- the number on top, said otherwise; the same of a long -/
theorem V_ti {a b : Int} (h : a = b) (k : V p l e R s m args below meth c nL w L cl kc ks Q pc lv (.int (zI b) :: st) σ) : V p l e R s m args below meth c nL w L cl kc ks Q pc lv (.int (zI a) :: st) σ := h ▸ k
theorem V_tl {a b : Int} (h : a = b) (k : V p l e R s m args below meth c nL w L cl kc ks Q pc lv (.long (zL b) :: st) σ) : V p l e R s m args below meth c nL w L cl kc ks Q pc lv (.long (zL a) :: st) σ := h ▸ k
/-- fewer locals, in another order -/
theorem V_sub (ks' : List Nat) (hl : lv_pick lv ks' = lv') (k : V p l e R s m args below meth c nL w L cl kc ks Q pc lv' st σ) : V p l e R s m args below meth c nL w L cl kc ks Q pc lv st σ :=
  fun ls H locs hls hP hS => k ls H locs (lv_sub hls ks' hl) hP hS
/-- branches -/
theorem V_ifeq (C : zC p s m args meth c cc nL own w L cl) {a off : Int} (tgt : Nat) (hd : decode cc pc = .ok (.ifCond .eq off, 3)) (ht : (pc : Int) + off = (tgt : Int)) (ha : rI a) (kt : a = 0 → V p l e R s m args below meth c nL w L cl kc ks Q tgt lv st σ) (kf : a ≠ 0 → V p l e R s m args below meth c nL w L cl kc ks Q (pc + 3) lv st σ) : V p l e R s m args below meth c nL w L cl kc ks Q pc lv (.int (zI a) :: st) σ :=
  fun ls H locs hl hP hS => lv_if_eq C.1 C.2.1 hd ht (fun h => kt ((zI_eq (b := 0) ha rI_0).mp h) ls H locs hl hP hS) (fun h => kf (fun z => h ((zI_eq (b := 0) ha rI_0).mpr z)) ls H locs hl hP hS)
theorem V_cmpeq (C : zC p s m args meth c cc nL own w L cl) {a b off : Int} (tgt : Nat) (hd : decode cc pc = .ok (.if_icmp .eq off, 3)) (ht : (pc : Int) + off = (tgt : Int)) (ha : rI a) (hb : rI b) (kt : a = b → V p l e R s m args below meth c nL w L cl kc ks Q tgt lv st σ) (kf : a ≠ b → V p l e R s m args below meth c nL w L cl kc ks Q (pc + 3) lv st σ) : V p l e R s m args below meth c nL w L cl kc ks Q pc lv (.int (zI b) :: .int (zI a) :: st) σ :=
  fun ls H locs hl hP hS => lv_icmp_eq C.1 C.2.1 hd ht (fun h => kt ((zI_eq ha hb).mp h) ls H locs hl hP hS) (fun h => kf (fun z => h ((zI_eq ha hb).mpr z)) ls H locs hl hP hS)
theorem V_ifne (C : zC p s m args meth c cc nL own w L cl) {a off : Int} (tgt : Nat) (hd : decode cc pc = .ok (.ifCond .ne off, 3)) (ht : (pc : Int) + off = (tgt : Int)) (ha : rI a) (kt : a ≠ 0 → V p l e R s m args below meth c nL w L cl kc ks Q tgt lv st σ) (kf : a = 0 → V p l e R s m args below meth c nL w L cl kc ks Q (pc + 3) lv st σ) : V p l e R s m args below meth c nL w L cl kc ks Q pc lv (.int (zI a) :: st) σ :=
  fun ls H locs hl hP hS => lv_if_ne C.1 C.2.1 hd ht (fun h => kt (fun z => h ((zI_eq (b := 0) ha rI_0).mpr z)) ls H locs hl hP hS) (fun h => kf ((zI_eq (b := 0) ha rI_0).mp h) ls H locs hl hP hS)
theorem V_cmpne (C : zC p s m args meth c cc nL own w L cl) {a b off : Int} (tgt : Nat) (hd : decode cc pc = .ok (.if_icmp .ne off, 3)) (ht : (pc : Int) + off = (tgt : Int)) (ha : rI a) (hb : rI b) (kt : a ≠ b → V p l e R s m args below meth c nL w L cl kc ks Q tgt lv st σ) (kf : a = b → V p l e R s m args below meth c nL w L cl kc ks Q (pc + 3) lv st σ) : V p l e R s m args below meth c nL w L cl kc ks Q pc lv (.int (zI b) :: .int (zI a) :: st) σ :=
  fun ls H locs hl hP hS => lv_icmp_ne C.1 C.2.1 hd ht (fun h => kt (fun z => h ((zI_eq ha hb).mpr z)) ls H locs hl hP hS) (fun h => kf ((zI_eq ha hb).mp h) ls H locs hl hP hS)
theorem V_iflt (C : zC p s m args meth c cc nL own w L cl) {a off : Int} (tgt : Nat) (hd : decode cc pc = .ok (.ifCond .lt off, 3)) (ht : (pc : Int) + off = (tgt : Int)) (ha : rI a) (kt : a < 0 → V p l e R s m args below meth c nL w L cl kc ks Q tgt lv st σ) (kf : 0 ≤ a → V p l e R s m args below meth c nL w L cl kc ks Q (pc + 3) lv st σ) : V p l e R s m args below meth c nL w L cl kc ks Q pc lv (.int (zI a) :: st) σ :=
  fun ls H locs hl hP hS => lv_if_lt C.1 C.2.1 hd ht (fun h => kt ((zI_lt (b := 0) ha rI_0).mp h) ls H locs hl hP hS) (fun h => kf (Int.not_lt.mp (fun z => h ((zI_lt (b := 0) ha rI_0).mpr z))) ls H locs hl hP hS)
theorem V_cmplt (C : zC p s m args meth c cc nL own w L cl) {a b off : Int} (tgt : Nat) (hd : decode cc pc = .ok (.if_icmp .lt off, 3)) (ht : (pc : Int) + off = (tgt : Int)) (ha : rI a) (hb : rI b) (kt : a < b → V p l e R s m args below meth c nL w L cl kc ks Q tgt lv st σ) (kf : b ≤ a → V p l e R s m args below meth c nL w L cl kc ks Q (pc + 3) lv st σ) : V p l e R s m args below meth c nL w L cl kc ks Q pc lv (.int (zI b) :: .int (zI a) :: st) σ :=
  fun ls H locs hl hP hS => lv_icmp_lt C.1 C.2.1 hd ht (fun h => kt ((zI_lt ha hb).mp h) ls H locs hl hP hS) (fun h => kf (Int.not_lt.mp (fun z => h ((zI_lt ha hb).mpr z))) ls H locs hl hP hS)
theorem V_ifge (C : zC p s m args meth c cc nL own w L cl) {a off : Int} (tgt : Nat) (hd : decode cc pc = .ok (.ifCond .ge off, 3)) (ht : (pc : Int) + off = (tgt : Int)) (ha : rI a) (kt : 0 ≤ a → V p l e R s m args below meth c nL w L cl kc ks Q tgt lv st σ) (kf : a < 0 → V p l e R s m args below meth c nL w L cl kc ks Q (pc + 3) lv st σ) : V p l e R s m args below meth c nL w L cl kc ks Q pc lv (.int (zI a) :: st) σ :=
  fun ls H locs hl hP hS => lv_if_ge C.1 C.2.1 hd ht (fun h => kt ((zI_le (a := 0) (b := a) rI_0 ha).mp h) ls H locs hl hP hS) (fun h => kf (Int.not_le.mp (fun z => h ((zI_le (a := 0) (b := a) rI_0 ha).mpr z))) ls H locs hl hP hS)
theorem V_cmpge (C : zC p s m args meth c cc nL own w L cl) {a b off : Int} (tgt : Nat) (hd : decode cc pc = .ok (.if_icmp .ge off, 3)) (ht : (pc : Int) + off = (tgt : Int)) (ha : rI a) (hb : rI b) (kt : b ≤ a → V p l e R s m args below meth c nL w L cl kc ks Q tgt lv st σ) (kf : a < b → V p l e R s m args below meth c nL w L cl kc ks Q (pc + 3) lv st σ) : V p l e R s m args below meth c nL w L cl kc ks Q pc lv (.int (zI b) :: .int (zI a) :: st) σ :=
  fun ls H locs hl hP hS => lv_icmp_ge C.1 C.2.1 hd ht (fun h => kt ((zI_le hb ha).mp h) ls H locs hl hP hS) (fun h => kf (Int.not_le.mp (fun z => h ((zI_le hb ha).mpr z))) ls H locs hl hP hS)
theorem V_ifgt (C : zC p s m args meth c cc nL own w L cl) {a off : Int} (tgt : Nat) (hd : decode cc pc = .ok (.ifCond .gt off, 3)) (ht : (pc : Int) + off = (tgt : Int)) (ha : rI a) (kt : 0 < a → V p l e R s m args below meth c nL w L cl kc ks Q tgt lv st σ) (kf : a ≤ 0 → V p l e R s m args below meth c nL w L cl kc ks Q (pc + 3) lv st σ) : V p l e R s m args below meth c nL w L cl kc ks Q pc lv (.int (zI a) :: st) σ :=
  fun ls H locs hl hP hS => lv_if_gt C.1 C.2.1 hd ht (fun h => kt ((zI_lt (a := 0) (b := a) rI_0 ha).mp h) ls H locs hl hP hS) (fun h => kf (Int.not_lt.mp (fun z => h ((zI_lt (a := 0) (b := a) rI_0 ha).mpr z))) ls H locs hl hP hS)
theorem V_cmpgt (C : zC p s m args meth c cc nL own w L cl) {a b off : Int} (tgt : Nat) (hd : decode cc pc = .ok (.if_icmp .gt off, 3)) (ht : (pc : Int) + off = (tgt : Int)) (ha : rI a) (hb : rI b) (kt : b < a → V p l e R s m args below meth c nL w L cl kc ks Q tgt lv st σ) (kf : a ≤ b → V p l e R s m args below meth c nL w L cl kc ks Q (pc + 3) lv st σ) : V p l e R s m args below meth c nL w L cl kc ks Q pc lv (.int (zI b) :: .int (zI a) :: st) σ :=
  fun ls H locs hl hP hS => lv_icmp_gt C.1 C.2.1 hd ht (fun h => kt ((zI_lt hb ha).mp h) ls H locs hl hP hS) (fun h => kf (Int.not_lt.mp (fun z => h ((zI_lt hb ha).mpr z))) ls H locs hl hP hS)
theorem V_ifle (C : zC p s m args meth c cc nL own w L cl) {a off : Int} (tgt : Nat) (hd : decode cc pc = .ok (.ifCond .le off, 3)) (ht : (pc : Int) + off = (tgt : Int)) (ha : rI a) (kt : a ≤ 0 → V p l e R s m args below meth c nL w L cl kc ks Q tgt lv st σ) (kf : 0 < a → V p l e R s m args below meth c nL w L cl kc ks Q (pc + 3) lv st σ) : V p l e R s m args below meth c nL w L cl kc ks Q pc lv (.int (zI a) :: st) σ :=
  fun ls H locs hl hP hS => lv_if_le C.1 C.2.1 hd ht (fun h => kt ((zI_le (b := 0) ha rI_0).mp h) ls H locs hl hP hS) (fun h => kf (Int.not_le.mp (fun z => h ((zI_le (b := 0) ha rI_0).mpr z))) ls H locs hl hP hS)
theorem V_cmple (C : zC p s m args meth c cc nL own w L cl) {a b off : Int} (tgt : Nat) (hd : decode cc pc = .ok (.if_icmp .le off, 3)) (ht : (pc : Int) + off = (tgt : Int)) (ha : rI a) (hb : rI b) (kt : a ≤ b → V p l e R s m args below meth c nL w L cl kc ks Q tgt lv st σ) (kf : b < a → V p l e R s m args below meth c nL w L cl kc ks Q (pc + 3) lv st σ) : V p l e R s m args below meth c nL w L cl kc ks Q pc lv (.int (zI b) :: .int (zI a) :: st) σ :=
  fun ls H locs hl hP hS => lv_icmp_le C.1 C.2.1 hd ht (fun h => kt ((zI_le ha hb).mp h) ls H locs hl hP hS) (fun h => kf (Int.not_le.mp (fun z => h ((zI_le ha hb).mpr z))) ls H locs hl hP hS)
/-- a truth value on top -/
def zB (P : Prop) [Decidable P] : Int := if P then 1 else 0
theorem rI_zB {P : Prop} [Decidable P] : rI (zB P) := by unfold zB; split; exact rI_1; exact rI_0
theorem zB_0 {P : Prop} [Decidable P] : zB P = 0 ↔ ¬ P := by unfold zB; split <;> simp_all
theorem V_ifeqB (C : zC p s m args meth c cc nL own w L cl) {off : Int} {P : Prop} [Decidable P] (tgt : Nat) (hd : decode cc pc = .ok (.ifCond .eq off, 3)) (ht : (pc : Int) + off = (tgt : Int)) (kt : ¬ P → V p l e R s m args below meth c nL w L cl kc ks Q tgt lv st σ) (kf : P → V p l e R s m args below meth c nL w L cl kc ks Q (pc + 3) lv st σ) : V p l e R s m args below meth c nL w L cl kc ks Q pc lv (.int (zI (zB P)) :: st) σ :=
  V_ifeq C tgt hd ht rI_zB (fun h => kt (zB_0.mp h)) (fun h => kf (Decidable.byContradiction fun z => h (zB_0.mpr z)))
theorem V_ifneB (C : zC p s m args meth c cc nL own w L cl) {off : Int} {P : Prop} [Decidable P] (tgt : Nat) (hd : decode cc pc = .ok (.ifCond .ne off, 3)) (ht : (pc : Int) + off = (tgt : Int)) (kt : P → V p l e R s m args below meth c nL w L cl kc ks Q tgt lv st σ) (kf : ¬ P → V p l e R s m args below meth c nL w L cl kc ks Q (pc + 3) lv st σ) : V p l e R s m args below meth c nL w L cl kc ks Q pc lv (.int (zI (zB P)) :: st) σ :=
  V_ifne C tgt hd ht rI_zB (fun h => kt (Decidable.byContradiction fun z => h (zB_0.mpr z))) (fun h => kf (zB_0.mp h))
/-- lcmp, and the branch behind it -/
theorem V_lcmp (C : zC p s m args meth c cc nL own w L cl) {a b : Int} (hd : decode cc pc = .ok (.lcmp, 1)) (ha : rL a) (hb : rL b) (k : V p l e R s m args below meth c nL w L cl kc ks Q (pc + 1) lv (.int (zI (if b < a then 1 else if a = b then 0 else -1)) :: st) σ) : V p l e R s m args below meth c nL w L cl kc ks Q pc lv (.long (zL b) :: .long (zL a) :: st) σ :=
  fun ls H locs hl hP hS => W.lcmp C.1 C.2.1 hd (by
    have e : lg_cmp (zL a) (zL b) = zI (if b < a then 1 else if a = b then 0 else -1) := by
      unfold lg_cmp
      by_cases h1 : b < a
      · rw [if_pos h1, if_pos ((zL_lt hb ha).mpr h1)]; rfl
      · rw [if_neg h1, if_neg (fun z => h1 ((zL_lt hb ha).mp z))]
        by_cases h2 : a = b
        · rw [if_pos h2, if_pos ((zL_eq ha hb).mpr h2)]; rfl
        · rw [if_neg h2, if_neg (fun z => h2 ((zL_eq ha hb).mp z))]; rfl
    rw [e]; exact k ls H locs hl hP hS)
/-- arrays -/
theorem V_iald (C : zC p s m args meth c cc nL own w L cl) (k i : Nat) (hk : k < L.1) {n : Nat} {fs : List (Nat × Nat)} (hd0 : L.2.1 k = (0, n, fs)) {z : Int} (hz : z = (i : Int)) (hi : i < n) (hn : n < 2 ^ 31) (hd : decode cc pc = .ok (.iaload, 1)) (kk : V p l e R s m args below meth c nL w L cl kc ks Q (pc + 1) lv (.int (zI (σ k i)) :: st) σ) : V p l e R s m args below meth c nL w L cl kc ks Q pc lv (.int (zI z) :: .ref (w.1 k) :: st) σ := by
  intro ls H locs hl hP hS
  subst hz
  refine va_iald C.1 C.2.1 C.2.2.2.2.2.1 hP k 0 (cA := (w.2.2 0)) (n := n) (f := fun j => zI (σ k j)) (by rw [zX_get hk, hd0]; rfl) rfl (zI_in hi hn) hd ?_
  rw [zI_cl (Nat.lt_trans hi hn)]
  exact kk ls H locs hl hP hS
theorem V_lald (C : zC p s m args meth c cc nL own w L cl) (k i : Nat) (hk : k < L.1) {n : Nat} {fs : List (Nat × Nat)} (hd0 : L.2.1 k = (1, n, fs)) {z : Int} (hz : z = (i : Int)) (hi : i < n) (hn : n < 2 ^ 31) (hd : decode cc pc = .ok (.laload, 1)) (kk : V p l e R s m args below meth c nL w L cl kc ks Q (pc + 1) lv (.long (zL (σ k i)) :: st) σ) : V p l e R s m args below meth c nL w L cl kc ks Q pc lv (.int (zI z) :: .ref (w.1 k) :: st) σ := by
  intro ls H locs hl hP hS
  subst hz
  refine va_lald C.1 C.2.1 C.2.2.2.2.2.1 hP k 1 (cA := (w.2.2 1)) (n := n) (f := fun j => zL (σ k j)) (by rw [zX_get hk, hd0]; rfl) rfl (zI_in hi hn) hd ?_
  rw [zI_cl (Nat.lt_trans hi hn)]
  exact kk ls H locs hl hP hS
theorem V_iast (C : zC p s m args meth c cc nL own w L cl) (k i : Nat) (hk : k < L.1) {n : Nat} {fs : List (Nat × Nat)} (hd0 : L.2.1 k = (0, n, fs)) {z v : Int} (hz : z = (i : Int)) (hi : i < n) (hn : n < 2 ^ 31) (hd : decode cc pc = .ok (.iastore, 1)) (kk : V p l e R s m args below meth c nL w L cl kc ks Q (pc + 1) lv st (zU σ k i v)) : V p l e R s m args below meth c nL w L cl kc ks Q pc lv (.int (zI v) :: .int (zI z) :: .ref (w.1 k) :: st) σ := by
  intro ls H locs hl hP hS
  subst hz
  refine va_iast C.1 C.2.1 C.2.2.2.2.2.1 hP (zX_D C.2.2.2.2.2.2.1) hS k 0 (cA := (w.2.2 0)) (n := n) (f := fun j => zI (σ k j)) (by rw [zX_get hk, hd0]; rfl) rfl (zI_in hi hn) hd (fun H1 locs1 hP1 _ hS1 => ?_)
  rw [zI_cl (Nat.lt_trans hi hn)] at hP1
  rw [zX_set (σ' := zU σ k i v) (by
    rw [hd0]; show Sum.inl _ = Sum.inl _; congr 3; refine congrArg Sum.inl ?_; funext j; unfold upd zU; by_cases h : j = i <;> simp [h]) (fun k' h => zU_ne h)] at hP1
  exact kk ls H1 locs1 hl hP1 hS1
theorem V_last (C : zC p s m args meth c cc nL own w L cl) (k i : Nat) (hk : k < L.1) {n : Nat} {fs : List (Nat × Nat)} (hd0 : L.2.1 k = (1, n, fs)) {z v : Int} (hz : z = (i : Int)) (hi : i < n) (hn : n < 2 ^ 31) (hd : decode cc pc = .ok (.lastore, 1)) (kk : V p l e R s m args below meth c nL w L cl kc ks Q (pc + 1) lv st (zU σ k i v)) : V p l e R s m args below meth c nL w L cl kc ks Q pc lv (.long (zL v) :: .int (zI z) :: .ref (w.1 k) :: st) σ := by
  intro ls H locs hl hP hS
  subst hz
  refine va_last C.1 C.2.1 C.2.2.2.2.2.1 hP (zX_D C.2.2.2.2.2.2.1) hS k 1 (cA := (w.2.2 1)) (n := n) (f := fun j => zL (σ k j)) (by rw [zX_get hk, hd0]; rfl) rfl (zI_in hi hn) hd (fun H1 locs1 hP1 _ hS1 => ?_)
  rw [zI_cl (Nat.lt_trans hi hn)] at hP1
  rw [zX_set (σ' := zU σ k i v) (by
    rw [hd0]; show Sum.inl _ = Sum.inl _; congr 4; refine congrArg Sum.inl ?_; funext j; unfold vp_updL zU; by_cases h : j = i <;> simp [h]) (fun k' h => zU_ne h)] at hP1
  exact kk ls H1 locs1 hl hP1 hS1
theorem V_zald (C : zC p s m args meth c cc nL own w L cl) (k i : Nat) (hk : k < L.1) {n : Nat} {fs : List (Nat × Nat)} (hd0 : L.2.1 k = (2, n, fs)) {z : Int} (hz : z = (i : Int)) (hi : i < n) (hn : n < 2 ^ 31) (hd : decode cc pc = .ok (.baload, 1)) (kk : V p l e R s m args below meth c nL w L cl kc ks Q (pc + 1) lv (.int (zI (σ k i)) :: st) σ) : V p l e R s m args below meth c nL w L cl kc ks Q pc lv (.int (zI z) :: .ref (w.1 k) :: st) σ := by
  intro ls H locs hl hP hS
  subst hz
  refine va_zald C.1 C.2.1 C.2.2.2.2.2.1 hP k 2 (cA := w.2.2 2) (n := n) (f := fun j => zI (σ k j)) (by rw [zX_get hk, hd0]; rfl) rfl (zI_in hi hn) hd ?_
  rw [zI_cl (Nat.lt_trans hi hn)]
  exact kk ls H locs hl hP hS
theorem V_zast (C : zC p s m args meth c cc nL own w L cl) (k i : Nat) (hk : k < L.1) {n : Nat} {fs : List (Nat × Nat)} (hd0 : L.2.1 k = (2, n, fs)) {z v : Int} (hz : z = (i : Int)) (hv : v = 0 ∨ v = 1) (hi : i < n) (hn : n < 2 ^ 31) (hd : decode cc pc = .ok (.bastore, 1)) (kk : V p l e R s m args below meth c nL w L cl kc ks Q (pc + 1) lv st (zU σ k i v)) : V p l e R s m args below meth c nL w L cl kc ks Q pc lv (.int (zI v) :: .int (zI z) :: .ref (w.1 k) :: st) σ := by
  intro ls H locs hl hP hS
  subst hz
  have hnar : vp_nar .boolean (zI v) = zI v := by rcases hv with rfl | rfl <;> decide
  refine va_zast C.1 C.2.1 C.2.2.2.2.2.1 hP (zX_D C.2.2.2.2.2.2.1) hS k 2 (cA := w.2.2 2) (n := n) (f := fun j => zI (σ k j)) (by rw [zX_get hk, hd0]; rfl) rfl (zI_in hi hn) hd (fun H1 locs1 hP1 _ hS1 => ?_)
  rw [zI_cl (Nat.lt_trans hi hn), hnar] at hP1
  rw [zX_set (σ' := zU σ k i v) (by
    rw [hd0]; show Sum.inl _ = Sum.inl _; congr 3; refine congrArg Sum.inl ?_; funext j; unfold upd zU; by_cases h : j = i <;> simp [h]) (fun k' h => zU_ne h)] at hP1
  exact kk ls H1 locs1 hl hP1 hS1
theorem V_alen (C : zC p s m args meth c cc nL own w L cl) (k : Nat) (hk : k < L.1) {n : Nat} {fs : List (Nat × Nat)} (hd0 : L.2.1 k = (0, n, fs)) (hd : decode cc pc = .ok (.arraylength, 1)) (kk : V p l e R s m args below meth c nL w L cl kc ks Q (pc + 1) lv (.int (zI (n : Int)) :: st) σ) : V p l e R s m args below meth c nL w L cl kc ks Q pc lv (.ref (w.1 k) :: st) σ := by
  intro ls H locs hl hP hS
  exact va_alen C.1 C.2.1 C.2.2.2.2.2.1 hP k 0 (cA := w.2.2 0) (x := (n, .inl (fun j => zI (σ k j)))) (by rw [zX_get hk, hd0]; rfl) (ty := .int) rfl (zI_nat n).symm hd (kk ls H locs hl hP hS)
/-- fields -/
theorem zF_at {q : Nat → Nat} {f : Nat → Int} {fs : List (Nat × Nat)} {j : Nat} {t : Nat × Nat} (h : fs[j]? = some t) : (fs.mapIdx (zF q f))[j]? = some (zF q f j t) := by
  rw [List.getElem?_mapIdx, h]; rfl
theorem zF_set {q : Nat → Nat} {f f' : Nat → Int} {fs : List (Nat × Nat)} {j : Nat} {t : Nat × Nat} {v : Value} (h : fs[j]? = some t) (hv : v = zF q f' j t) (hne : ∀ i, i ≠ j → f' i = f i) : (fs.mapIdx (zF q f)).set j v = fs.mapIdx (zF q f') := by
  subst hv
  have hl : j < fs.length := (List.getElem?_eq_some_iff.mp h).1
  apply List.ext_getElem?
  intro i
  by_cases hij : i = j
  · subst hij
    rw [List.getElem?_set_self (by simpa using hl), zF_at h]
  · rw [List.getElem?_set_ne (Ne.symm hij), List.getElem?_mapIdx, List.getElem?_mapIdx]
    cases fs[i]? with
    | none => rfl
    | some u =>
      show some (zF q f i u) = some (zF q f' i u)
      unfold zF
      rw [hne i hij]
theorem V_get (C : zC p s m args meth c cc nL own w L cl) (k j : Nat) (hk : k < L.1) {ci n : Nat} {fs : List (Nat × Nat)} (hd0 : L.2.1 k = (ci + 3, n, fs)) {Cn : String} {T : u_T} {N : Nat} (hc : cl[ci]? = some (Cn, T, N)) (hin : ∀ x ∈ u_ws Cn T N, x ∈ zT) (hj : j < N) {t : Nat × Nat} (ht : fs[j]? = some t) {ix : Nat} (hlk : Cond.fieldLink own ix (T j).1 (T j).2.1 (T j).2.2.1 ∈ zT) (hd : decode cc pc = .ok (.getfield ix, 3)) (kk : V p l e R s m args below meth c nL w L cl kc ks Q (pc + 3) lv (zF w.1 (σ k) j t :: st) σ) : V p l e R s m args below meth c nL w L cl kc ks Q pc lv (.ref (w.1 k) :: st) σ := by
  intro ls H locs hl hP hS
  exact va_get (fs := fs.mapIdx (zF w.1 (σ k))) C.1 C.2.1 C.2.2.2.2.1 hin C.2.2.2.1 C.2.2.2.2.2.1 hP k (by rw [zX_get hk, hd0]; rfl) hc j hj (C.2.2.2.2.1 _ hlk) (fun _ h9 => h9) (zF_at ht) hd (kk ls H locs hl hP hS)
theorem V_geti (C : zC p s m args meth c cc nL own w L cl) (k j : Nat) (hk : k < L.1) {ci n r : Nat} {fs : List (Nat × Nat)} (hd0 : L.2.1 k = (ci + 3, n, fs)) {Cn : String} {T : u_T} {N : Nat} (hc : cl[ci]? = some (Cn, T, N)) (hin : ∀ x ∈ u_ws Cn T N, x ∈ zT) (hj : j < N) (ht : fs[j]? = some (0, r)) {ix : Nat} (hlk : Cond.fieldLink own ix (T j).1 (T j).2.1 (T j).2.2.1 ∈ zT) (hd : decode cc pc = .ok (.getfield ix, 3)) (kk : V p l e R s m args below meth c nL w L cl kc ks Q (pc + 3) lv (.int (zI (σ k j)) :: st) σ) : V p l e R s m args below meth c nL w L cl kc ks Q pc lv (.ref (w.1 k) :: st) σ :=
  V_get C k j hk hd0 hc hin hj ht hlk hd kk
theorem V_getl (C : zC p s m args meth c cc nL own w L cl) (k j : Nat) (hk : k < L.1) {ci n r : Nat} {fs : List (Nat × Nat)} (hd0 : L.2.1 k = (ci + 3, n, fs)) {Cn : String} {T : u_T} {N : Nat} (hc : cl[ci]? = some (Cn, T, N)) (hin : ∀ x ∈ u_ws Cn T N, x ∈ zT) (hj : j < N) (ht : fs[j]? = some (1, r)) {ix : Nat} (hlk : Cond.fieldLink own ix (T j).1 (T j).2.1 (T j).2.2.1 ∈ zT) (hd : decode cc pc = .ok (.getfield ix, 3)) (kk : V p l e R s m args below meth c nL w L cl kc ks Q (pc + 3) lv (.long (zL (σ k j)) :: st) σ) : V p l e R s m args below meth c nL w L cl kc ks Q pc lv (.ref (w.1 k) :: st) σ :=
  V_get C k j hk hd0 hc hin hj ht hlk hd kk
theorem V_getr (C : zC p s m args meth c cc nL own w L cl) (k j r : Nat) (hk : k < L.1) {ci n : Nat} {fs : List (Nat × Nat)} (hd0 : L.2.1 k = (ci + 3, n, fs)) {Cn : String} {T : u_T} {N : Nat} (hc : cl[ci]? = some (Cn, T, N)) (hin : ∀ x ∈ u_ws Cn T N, x ∈ zT) (hj : j < N) (ht : fs[j]? = some (2, r)) {ix : Nat} (hlk : Cond.fieldLink own ix (T j).1 (T j).2.1 (T j).2.2.1 ∈ zT) (hd : decode cc pc = .ok (.getfield ix, 3)) (kk : V p l e R s m args below meth c nL w L cl kc ks Q (pc + 3) lv (.ref (w.1 r) :: st) σ) : V p l e R s m args below meth c nL w L cl kc ks Q pc lv (.ref (w.1 k) :: st) σ :=
  V_get C k j hk hd0 hc hin hj ht hlk hd kk
theorem V_put (C : zC p s m args meth c cc nL own w L cl) (k j : Nat) (hk : k < L.1) {ci n : Nat} {fs : List (Nat × Nat)} (hd0 : L.2.1 k = (ci + 3, n, fs)) {Cn : String} {T : u_T} {N : Nat} (hc : cl[ci]? = some (Cn, T, N)) (hin : ∀ x ∈ u_ws Cn T N, x ∈ zT) (ty0 : Nat → FieldType) (hty : ∀ k, k < N → parseFieldDescriptor (T k).2.2.1 = some (ty0 k)) (hnm : ∀ a, a < N → ∀ b, b < N → a ≠ b → (T a).2.1 ≠ (T b).2.1) (hj : j < N) {t : Nat × Nat} (ht : fs[j]? = some t) {ix : Nat} (hlk : Cond.fieldLink own ix (T j).1 (T j).2.1 (T j).2.2.1 ∈ zT) (hfin : (T j).2.2.2 = false) {v : Value} {z : Int} (hv : v = zF w.1 (fun _ => z) j t) (hn : narrow (ty0 j) v = v) (hfit : fits (ty0 j) v = true) (hd : decode cc pc = .ok (.putfield ix, 3)) (kk : V p l e R s m args below meth c nL w L cl kc ks Q (pc + 3) lv st (zU σ k j z)) : V p l e R s m args below meth c nL w L cl kc ks Q pc lv (v :: .ref (w.1 k) :: st) σ := by
  intro ls H locs hl hP hS
  refine va_put (fs := fs.mapIdx (zF w.1 (σ k))) C.1 C.2.1 C.2.2.2.2.1 hin ty0 hty hnm C.2.2.2.1 C.2.2.2.2.2.1 hP (zX_D C.2.2.2.2.2.2.1) hS k (by rw [zX_get hk, hd0]; rfl) hc j hj (C.2.2.2.2.1 _ hlk) (fun _ h9 => h9) hfin (hty j hj) hn hfit (by simpa using (List.getElem?_eq_some_iff.mp ht).1) hd (fun H1 locs1 hP1 _ hS1 => ?_)
  rw [zX_set (σ' := zU σ k j z) (by
    rw [hd0]; show Sum.inr _ = Sum.inr _; congr 2
    exact zF_set ht (by rw [hv]; unfold zF; simp [zU]) (fun i h => zU_nj h)) (fun k' h => zU_ne h)] at hP1
  exact kk ls H1 locs1 hl hP1 hS1
/-! CONTRACTS: any heap that holds the store σ; the answer is this number; the heap holds the store σ2; nothing else changed -/
def zPre (w : zW) (L : zY) (cl : List vw_C) (σ : Nat → Nat → Int) (sz : Nat) : State → Prop := fun U => U.heap.size = sz ∧ va_P w.2.1 cl (zX w L σ) U.heap ∧ va_K w.2.1 cl [(w.2.2 0, .int), (w.2.2 1, .long), (w.2.2 2, .boolean)] U ∧ zN w L.1 ∧ zK L U
def zPost (w : zW) (L : zY) (cl : List vw_C) : (Nat → Nat → Int) → State → Prop := fun u t => va_P w.2.1 cl (zX w L u) t.heap
def zQi (w : zW) (L : zY) (cl : List vw_C) (z : Int) (σ2 : Nat → Nat → Int) (sz : Nat) : Array Value → State → Outcome → State → Prop := va_Qi (fun r u => r = zI z ∧ u = σ2) (zPost w L cl) (zA w L.1 sz)
def zQl (w : zW) (L : zY) (cl : List vw_C) (z : Int) (σ2 : Nat → Nat → Int) (sz : Nat) : Array Value → State → Outcome → State → Prop := va_Ql (fun r u => r = zL z ∧ u = σ2) (zPost w L cl) (zA w L.1 sz)
def zQv (w : zW) (L : zY) (cl : List vw_C) (σ2 : Nat → Nat → Int) (sz : Nat) : Array Value → State → Outcome → State → Prop := va_Qv (fun u => u = σ2) (zPost w L cl) (zA w L.1 sz)
/-- a method: its name, its code, its locals, what it answers -/
abbrev zG : Type := MethodName × ByteArray × Nat × Option FieldType
def zc (g : zG) : Cond := .code g.1 g.2.1 g.2.2.1 g.2.2.2
def zMi (l : Launch) (w : zW) (L : zY) (cl : List vw_C) (g : zG) (rm : Room) (av : List Value) (σ : Nat → Nat → Int) (z : Int) (σ2 : Nat → Nat → Int) : Prop := ∀ sz, Met l g.1 (zc g :: zT) rm (va_Pc av (zPre w L cl σ sz)) (zQi w L cl z σ2 sz) 0 0 (zA w L.1 sz)
def zMl (l : Launch) (w : zW) (L : zY) (cl : List vw_C) (g : zG) (rm : Room) (av : List Value) (σ : Nat → Nat → Int) (z : Int) (σ2 : Nat → Nat → Int) : Prop := ∀ sz, Met l g.1 (zc g :: zT) rm (va_Pc av (zPre w L cl σ sz)) (zQl w L cl z σ2 sz) 0 0 (zA w L.1 sz)
def zMv (l : Launch) (w : zW) (L : zY) (cl : List vw_C) (g : zG) (rm : Room) (av : List Value) (σ : Nat → Nat → Int) (σ2 : Nat → Nat → Int) : Prop := ∀ sz, Met l g.1 (zc g :: zT) rm (va_Pc av (zPre w L cl σ sz)) (zQv w L cl σ2 sz) 0 0 (zA w L.1 sz)
theorem zMi.of (g : zG) {rm : Room} {av : List Value} {z : Int} {σ2 : Nat → Nat → Int} (hy : plainName g.1.cls = true) (hav : (lg_sl av).length ≤ g.2.2.1) (hlv : lv_args 0 av = lv)
    (body : ∀ (p : Program) (e : Env) (s : State) (m : MethodId) (args : Array Value) (below : List Frame) (meth : Method) (c : Code), zC p s m args meth c g.2.1 g.2.2.1 g.1.cls w L cl → meth.sig.returnType = g.2.2.2 → V p l e rm s m args below meth c g.2.2.1 w L cl 0 0 (MQ below (zQi w L cl z σ2 s.heap.size) args s 0 0 (zA w L.1 s.heap.size)) 0 lv [] σ) : zMi l w L cl g rm av σ z σ2 := by
  intro sz
  refine Met.ofW (cc := g.2.1) (maxL := g.2.2.1) (ret := g.2.2.2) hy rfl ?_
  intro p e s m args below meth c s₁ B hml hv
  obtain ⟨rfl, rfl, hP, hK, hN, hZ⟩ := hv
  have hb := body p e s m _ below meth c ⟨B.exec, B.bytes, hml, findClass_of_methodNamed B.named, fun x hx => atoms_spec (ws := zc g :: zT) B.pre x (List.mem_cons_of_mem _ hx), hK, hN, B.notSynchronized, hZ⟩ B.returns
  rw [lg_entry_eq]
  subst hlv
  exact hb _ _ _ (lv_entry av hav) hP va_S.rf
theorem zMl.of (g : zG) {rm : Room} {av : List Value} {z : Int} {σ2 : Nat → Nat → Int} (hy : plainName g.1.cls = true) (hav : (lg_sl av).length ≤ g.2.2.1) (hlv : lv_args 0 av = lv)
    (body : ∀ (p : Program) (e : Env) (s : State) (m : MethodId) (args : Array Value) (below : List Frame) (meth : Method) (c : Code), zC p s m args meth c g.2.1 g.2.2.1 g.1.cls w L cl → meth.sig.returnType = g.2.2.2 → V p l e rm s m args below meth c g.2.2.1 w L cl 0 0 (MQ below (zQl w L cl z σ2 s.heap.size) args s 0 0 (zA w L.1 s.heap.size)) 0 lv [] σ) : zMl l w L cl g rm av σ z σ2 := by
  intro sz
  refine Met.ofW (cc := g.2.1) (maxL := g.2.2.1) (ret := g.2.2.2) hy rfl ?_
  intro p e s m args below meth c s₁ B hml hv
  obtain ⟨rfl, rfl, hP, hK, hN, hZ⟩ := hv
  have hb := body p e s m _ below meth c ⟨B.exec, B.bytes, hml, findClass_of_methodNamed B.named, fun x hx => atoms_spec (ws := zc g :: zT) B.pre x (List.mem_cons_of_mem _ hx), hK, hN, B.notSynchronized, hZ⟩ B.returns
  rw [lg_entry_eq]
  subst hlv
  exact hb _ _ _ (lv_entry av hav) hP va_S.rf
theorem zMv.of (g : zG) {rm : Room} {av : List Value} {σ2 : Nat → Nat → Int} (hy : plainName g.1.cls = true) (hav : (lg_sl av).length ≤ g.2.2.1) (hlv : lv_args 0 av = lv)
    (body : ∀ (p : Program) (e : Env) (s : State) (m : MethodId) (args : Array Value) (below : List Frame) (meth : Method) (c : Code), zC p s m args meth c g.2.1 g.2.2.1 g.1.cls w L cl → meth.sig.returnType = g.2.2.2 → V p l e rm s m args below meth c g.2.2.1 w L cl 0 0 (MQ below (zQv w L cl σ2 s.heap.size) args s 0 0 (zA w L.1 s.heap.size)) 0 lv [] σ) : zMv l w L cl g rm av σ σ2 := by
  intro sz
  refine Met.ofW (cc := g.2.1) (maxL := g.2.2.1) (ret := g.2.2.2) hy rfl ?_
  intro p e s m args below meth c s₁ B hml hv
  obtain ⟨rfl, rfl, hP, hK, hN, hZ⟩ := hv
  have hb := body p e s m _ below meth c ⟨B.exec, B.bytes, hml, findClass_of_methodNamed B.named, fun x hx => atoms_spec (ws := zc g :: zT) B.pre x (List.mem_cons_of_mem _ hx), hK, hN, B.notSynchronized, hZ⟩ B.returns
  rw [lg_entry_eq]
  subst hlv
  exact hb _ _ _ (lv_entry av hav) hP va_S.rf
theorem V_iret (C : zC p s m args meth c cc nL own w L cl) {z0 z : Int} {σ2 : Nat → Nat → Int} (hr : meth.sig.returnType = some .int) (hd : decode cc pc = .ok (.ireturn, 1)) (hz : z0 = z) (hσ : σ = σ2) : V p l e R s m args below meth c nL w L cl 0 0 (MQ below (zQi w L cl z σ2 s.heap.size) args s 0 0 (zA w L.1 s.heap.size)) pc lv [.int (zI z0)] σ := by
  subst hz; subst hσ
  intro ls H locs hl hP hS
  exact W.iret C.1 C.2.1 hr (fun t ht hW => ⟨⟨_, _, rfl, ⟨rfl, rfl⟩, by unfold zPost; rw [ht]; exact hP⟩, hS.F ht⟩) hS.2.2 hd C.2.2.2.2.2.2.2.1
theorem zB_nar {P : Prop} [Decidable P] : narrow .boolean (.int (zI (zB P))) = .int (zI (zB P)) := by
  unfold zB; split <;> rfl
theorem V_zret (C : zC p s m args meth c cc nL own w L cl) {z0 z : Int} {σ2 : Nat → Nat → Int} (hr : meth.sig.returnType = some .boolean) (hd : decode cc pc = .ok (.ireturn, 1)) (h01 : z0 = 0 ∨ z0 = 1) (hz : z0 = z) (hσ : σ = σ2) : V p l e R s m args below meth c nL w L cl 0 0 (MQ below (zQi w L cl z σ2 s.heap.size) args s 0 0 (zA w L.1 s.heap.size)) pc lv [.int (zI z0)] σ := by
  have hn : narrow .boolean (.int (zI z0)) = .int (zI z0) := by rcases h01 with rfl | rfl <;> rfl
  subst hz; subst hσ
  intro ls H locs hl hP hS
  exact W.zret C.1 C.2.1 hr hn (fun t ht hW => ⟨⟨_, _, rfl, ⟨rfl, rfl⟩, by unfold zPost; rw [ht]; exact hP⟩, hS.F ht⟩) hS.2.2 hd C.2.2.2.2.2.2.2.1
theorem V_lret (C : zC p s m args meth c cc nL own w L cl) {z0 z : Int} {σ2 : Nat → Nat → Int} (hr : meth.sig.returnType = some .long) (hd : decode cc pc = .ok (.lreturn, 1)) (hz : z0 = z) (hσ : σ = σ2) : V p l e R s m args below meth c nL w L cl 0 0 (MQ below (zQl w L cl z σ2 s.heap.size) args s 0 0 (zA w L.1 s.heap.size)) pc lv [.long (zL z0)] σ := by
  subst hz; subst hσ
  intro ls H locs hl hP hS
  exact W.lret C.1 C.2.1 hr (fun t ht hW => ⟨⟨_, _, rfl, ⟨rfl, rfl⟩, by unfold zPost; rw [ht]; exact hP⟩, hS.F ht⟩) hS.2.2 hd C.2.2.2.2.2.2.2.1
theorem V_vret (C : zC p s m args meth c cc nL own w L cl) {σ2 : Nat → Nat → Int} (hr : meth.sig.returnType = none) (hd : decode cc pc = .ok (.return_, 1)) (hσ : σ = σ2) : V p l e R s m args below meth c nL w L cl 0 0 (MQ below (zQv w L cl σ2 s.heap.size) args s 0 0 (zA w L.1 s.heap.size)) pc lv [] σ := by
  subst hσ
  intro ls H locs hl hP hS
  exact W.vret C.1 C.2.1 hr (fun t ht hW => ⟨⟨_, rfl, rfl, by unfold zPost; rw [ht]; exact hP⟩, hS.F ht⟩) hS.2.2 hd C.2.2.2.2.2.2.2.1
/-- calls -/
theorem zK.moved {u U : State} (hW : u.WarmedH U.vm) (h : zK L u) : zK L U := fun q hq => va_Nw.warmM hW (h q hq)
theorem zBlind {av : List Value} {sz : Nat} : FrameBlind (va_Pc av (zPre w L cl σ sz)) := by
  intro a U g mk q
  obtain ⟨q0, q1, qP, qK, qN, qZ⟩ := q
  exact ⟨q0, q1, qP, va_K.moved (u := U) (U := U.calling g mk a) (Vm.Alike.refl U.vm) qK, qN, fun x hx => va_Nw.same rfl rfl (qZ x hx)⟩
theorem zPreS (C : zC p s m args meth c cc nL own w L cl) {H : Heap} (hP : va_P w.2.1 cl (zX w L σ) H) (av : List Value) : PreS s H (va_Pc av (zPre w L cl σ H.size)) av :=
  ⟨zBlind, fun U hU hW => ⟨rfl, by rw [hU], by rw [hU]; exact hP, va_K.moved hW.alike C.2.2.2.2.2.1, C.2.2.2.2.2.2.1, zK.moved hW C.2.2.2.2.2.2.2.2⟩⟩
theorem zPreV (C : zC p s m args meth c cc nL own w L cl) {H : Heap} (hP : va_P w.2.1 cl (zX w L σ) H) (As : List Value) (k : Nat) (hk : k < L.1) {ci n : Nat} {fs : List (Nat × Nat)} (hd0 : L.2.1 k = (ci + 3, n, fs)) {Cn : String} {T : u_T} {N : Nat} (hc : cl[ci]? = some (Cn, T, N)) : PreV s H Cn (w.1 k) (va_Pc (.ref (w.1 k) :: As) (zPre w L cl σ H.size)) As :=
  ⟨zBlind, va_recv C.2.2.2.2.2.1 hP (ci := ci) (q0 := k) (fs := fs.mapIdx (zF w.1 (σ k))) hc (by rw [zX_get hk, hd0]; rfl), fun U hU hW => ⟨rfl, by rw [hU], by rw [hU]; exact hP, va_K.moved hW.alike C.2.2.2.2.2.1, C.2.2.2.2.2.2.1, zK.moved hW C.2.2.2.2.2.2.2.2⟩⟩
theorem zT_good {x : Cond} (h : x ∈ zT) : x ∈ zT ∧ ((x.onTables && x.keeps) = true ∨ ∃ ty, x = .arrayClass ty) := ⟨h, good_of_word (List.mem_filter.mp h).2⟩
theorem zgV {own Cn : String} {ix : Nat} {g : zG} (h1 : Cond.methodLink own ix g.1 ∈ zT) (h2 : Cond.instanceMethod g.1 ∈ zT) (h3 : Cond.selects Cn g.1 g.1 ∈ zT) (h4 : Cond.initialized Cn ∈ zT) (h5 : zc g ∈ zT) : GoodIn zT (wsV own ix Cn g.1 (zc g :: zT)) := by
  intro x hx
  unfold wsV at hx
  simp only [List.cons_append, List.nil_append, List.mem_cons] at hx
  rcases hx with rfl | rfl | rfl | rfl | rfl | hx <;> exact zT_good (by assumption)
theorem zgS {own : String} {ix : Nat} {g : zG} (h1 : Cond.methodLink own ix g.1 ∈ zT) (h2 : Cond.static g.1 ∈ zT) (h3 : Cond.initialized own ∈ zT) (h5 : zc g ∈ zT) : GoodIn zT (wsS own ix g.1 (zc g :: zT)) := by
  intro x hx
  unfold wsS at hx
  simp only [List.cons_append, List.nil_append, List.mem_cons] at hx
  rcases hx with rfl | rfl | rfl | rfl | hx <;> exact zT_good (by assumption)
theorem zgJ {own : String} {ix : Nat} {g : zG} (h1 : Cond.methodLink own ix g.1 ∈ zT) (h2 : Cond.static g.1 ∈ zT) (h3 : Cond.initialized g.1.cls ∈ zT) (h5 : zc g ∈ zT) : GoodIn zT (va_wsS own ix g.1 (zc g :: zT)) := by
  intro x hx
  unfold va_wsS at hx
  simp only [List.cons_append, List.nil_append, List.mem_cons] at hx
  rcases hx with rfl | rfl | rfl | rfl | hx <;> exact zT_good (by assumption)
theorem zgN {g : zG} (h5 : zc g ∈ zT) : GoodIn zT (zc g :: zT) := by
  intro x hx
  simp only [List.mem_cons] at hx
  rcases hx with rfl | hx <;> exact zT_good (by assumption)
/-- what is plain of a method's name, its number of arguments -/
def zO (g : zG) (n : Nat) : Prop := g.1.cls ≠ "java/lang/invoke/MethodHandle" ∧ g.1.cls ≠ "java/lang/invoke/VarHandle" ∧ (parseMethodDescriptor g.1.desc).map (fun d => d.parameters.length) = some n
theorem V_runi {st0 rest : List Value} {a : Array Value} {z : Int} {σ2 : Nat → Nat → Int} (hr : ∀ (ls : Array Slot) (H : Heap) (locs : List Loc), ls.size = nL → va_P w.2.1 cl (zX w L σ) H → va_Run p l e R s m args below meth c H locs kc ks 0 0 (F0 m pc ls st0) rest (zQi w L cl z σ2 H.size a) (zA w L.1 H.size)) (kk : V p l e R s m args below meth c nL w L cl kc ks Q (pc + 3) lv (.int (zI z) :: rest) σ2) : V p l e R s m args below meth c nL w L cl kc ks Q pc lv st0 σ := by
  intro ls H locs hl hP hS
  refine va_calli (hr ls H locs hl.1 hP) hS (fun x _ h => zA_mono hS.1 h) (fun x h => zA_mono hS.1 h) (fun r u t H1 locs1 ht hvm hp hB hz1 hk1 hS1 => ?_)
  obtain ⟨rfl, rfl⟩ := hp
  unfold zPost at hB
  rw [ht] at hB
  exact kk ls H1 locs1 hl hB hS1
theorem V_callSi (C : zC p s m args meth c cc nL own w L cl) {g : zG} {rm : Room} {n ix : Nat} {As rest st0 : List Value} {z : Int} {σ2 : Nat → Nat → Int} (hM : zMi l w L cl g rm As σ z σ2) (h1 : Cond.methodLink own ix g.1 ∈ zT) (h2 : Cond.static g.1 ∈ zT) (h3 : Cond.initialized g.1.cls ∈ zT) (h5 : zc g ∈ zT) (hO : zO g n) (hR : rm.cells = 0 ∧ rm.slots = 0 ∧ rm.frames + 1 ≤ R.frames ∧ 8 + (g.2.2.1 + 11) + rm.locals ≤ R.locals) (hn : As.length = n) (hst : st0 = As.reverse ++ rest) (hW : (rest.map fun v => v.category).sum ≤ 8) (hd : decode cc pc = .ok (.invokestatic ix, 3)) (hf : kc ≤ R.cells ∧ ks ≤ R.slots) (kk : V p l e R s m args below meth c nL w L cl kc ks Q (pc + 3) lv (.int (zI z) :: rest) σ2) : V p l e R s m args below meth c nL w L cl kc ks Q pc lv st0 σ :=
  V_runi (fun ls H locs hsz hP => va_runS ⟨C.1, C.2.1, C.2.2.1, C.2.2.2.1, C.2.2.2.2.1⟩ (hM H.size) (va_cwS n C.2.2.2.2.1 (zgJ h1 h2 h3 h5) rfl hR.1 hR.2.1 hO hR.2.2) (zPreS C hP As) rfl hn hsz hst (lv_room hW) hd hf) kk
theorem V_callNi (C : zC p s m args meth c cc nL own w L cl) {g : zG} {rm : Room} {n ix : Nat} {host : String} {As rest st0 : List Value} {z : Int} {σ2 : Nat → Nat → Int} (hM : zMi l w L cl g rm As σ z σ2) (h1 : (own, ix, g.1, host) ∈ L.2.2) (h2 : Cond.static g.1 ∈ zT) (h3 : Cond.initialized g.1.cls ∈ zT) (h5 : zc g ∈ zT) (hO : zO g n) (hR : rm.cells = 0 ∧ rm.slots = 0 ∧ rm.frames + 1 ≤ R.frames ∧ 8 + (g.2.2.1 + 11) + rm.locals ≤ R.locals) (hn : As.length = n) (hst : st0 = As.reverse ++ rest) (hW : (rest.map fun v => v.category).sum ≤ 8) (hd : decode cc pc = .ok (.invokestatic ix, 3)) (hf : kc ≤ R.cells ∧ ks ≤ R.slots) (kk : V p l e R s m args below meth c nL w L cl kc ks Q (pc + 3) lv (.int (zI z) :: rest) σ2) : V p l e R s m args below meth c nL w L cl kc ks Q pc lv st0 σ :=
  V_runi (fun ls H locs hsz hP => va_runSN (host := host) ⟨C.1, C.2.1, C.2.2.1, C.2.2.2.1, C.2.2.2.2.1⟩ (hM H.size) ⟨va_cnB n C.2.2.2.2.1 (zgN h5) rfl hR.1 hR.2.1 (C.2.2.2.2.2.2.2.2 _ h1) (C.2.2.2.2.1 _ h3) hO hR.2.2, C.2.2.2.2.1 _ h2, trivial⟩ (zPreS C hP As) rfl hn hsz hst (lv_room hW) hd hf) kk
theorem V_callVi (C : zC p s m args meth c cc nL own w L cl) {g : zG} {rm : Room} {n ix : Nat} {As rest st0 : List Value} {z : Int} {σ2 : Nat → Nat → Int} (k : Nat) (hk : k < L.1) {ci n0 : Nat} {fs : List (Nat × Nat)} (hd0 : L.2.1 k = (ci + 3, n0, fs)) {T : u_T} {N : Nat} (hc : cl[ci]? = some (g.1.cls, T, N)) (hM : zMi l w L cl g rm (.ref (w.1 k) :: As) σ z σ2) (h1 : Cond.methodLink own ix g.1 ∈ zT) (h2 : Cond.instanceMethod g.1 ∈ zT) (h3 : Cond.selects g.1.cls g.1 g.1 ∈ zT) (h4 : Cond.initialized g.1.cls ∈ zT) (h5 : zc g ∈ zT) (hO : zO g n) (hR : rm.cells = 0 ∧ rm.slots = 0 ∧ rm.frames + 1 ≤ R.frames ∧ 8 + (g.2.2.1 + 11) + rm.locals ≤ R.locals) (hn : As.length = n) (hst : st0 = As.reverse ++ .ref (w.1 k) :: rest) (hW : (rest.map fun v => v.category).sum ≤ 8) (hd : decode cc pc = .ok (.invokevirtual ix, 3)) (hf : kc ≤ R.cells ∧ ks ≤ R.slots) (kk : V p l e R s m args below meth c nL w L cl kc ks Q (pc + 3) lv (.int (zI z) :: rest) σ2) : V p l e R s m args below meth c nL w L cl kc ks Q pc lv st0 σ :=
  V_runi (fun ls H locs hsz hP => va_runV ⟨C.1, C.2.1, C.2.2.1, C.2.2.2.1, C.2.2.2.2.1⟩ (hM H.size) (cwV n C.2.2.2.2.1 (zgV h1 h2 h3 h4 h5) rfl hR.1 hR.2.1 ⟨rfl, hO⟩ hR.2.2) (zPreV C hP As k hk hd0 hc) rfl hn hsz hst (lv_room hW) hd hf) kk
theorem V_runl {st0 rest : List Value} {a : Array Value} {z : Int} {σ2 : Nat → Nat → Int} (hr : ∀ (ls : Array Slot) (H : Heap) (locs : List Loc), ls.size = nL → va_P w.2.1 cl (zX w L σ) H → va_Run p l e R s m args below meth c H locs kc ks 0 0 (F0 m pc ls st0) rest (zQl w L cl z σ2 H.size a) (zA w L.1 H.size)) (kk : V p l e R s m args below meth c nL w L cl kc ks Q (pc + 3) lv (.long (zL z) :: rest) σ2) : V p l e R s m args below meth c nL w L cl kc ks Q pc lv st0 σ := by
  intro ls H locs hl hP hS
  refine va_calll (hr ls H locs hl.1 hP) hS (fun x _ h => zA_mono hS.1 h) (fun x h => zA_mono hS.1 h) (fun r u t H1 locs1 ht hvm hp hB hz1 hk1 hS1 => ?_)
  obtain ⟨rfl, rfl⟩ := hp
  unfold zPost at hB
  rw [ht] at hB
  exact kk ls H1 locs1 hl hB hS1
theorem V_callSl (C : zC p s m args meth c cc nL own w L cl) {g : zG} {rm : Room} {n ix : Nat} {As rest st0 : List Value} {z : Int} {σ2 : Nat → Nat → Int} (hM : zMl l w L cl g rm As σ z σ2) (h1 : Cond.methodLink own ix g.1 ∈ zT) (h2 : Cond.static g.1 ∈ zT) (h3 : Cond.initialized g.1.cls ∈ zT) (h5 : zc g ∈ zT) (hO : zO g n) (hR : rm.cells = 0 ∧ rm.slots = 0 ∧ rm.frames + 1 ≤ R.frames ∧ 8 + (g.2.2.1 + 11) + rm.locals ≤ R.locals) (hn : As.length = n) (hst : st0 = As.reverse ++ rest) (hW : (rest.map fun v => v.category).sum ≤ 8) (hd : decode cc pc = .ok (.invokestatic ix, 3)) (hf : kc ≤ R.cells ∧ ks ≤ R.slots) (kk : V p l e R s m args below meth c nL w L cl kc ks Q (pc + 3) lv (.long (zL z) :: rest) σ2) : V p l e R s m args below meth c nL w L cl kc ks Q pc lv st0 σ :=
  V_runl (fun ls H locs hsz hP => va_runS ⟨C.1, C.2.1, C.2.2.1, C.2.2.2.1, C.2.2.2.2.1⟩ (hM H.size) (va_cwS n C.2.2.2.2.1 (zgJ h1 h2 h3 h5) rfl hR.1 hR.2.1 hO hR.2.2) (zPreS C hP As) rfl hn hsz hst (lv_room hW) hd hf) kk
theorem V_callNl (C : zC p s m args meth c cc nL own w L cl) {g : zG} {rm : Room} {n ix : Nat} {host : String} {As rest st0 : List Value} {z : Int} {σ2 : Nat → Nat → Int} (hM : zMl l w L cl g rm As σ z σ2) (h1 : (own, ix, g.1, host) ∈ L.2.2) (h2 : Cond.static g.1 ∈ zT) (h3 : Cond.initialized g.1.cls ∈ zT) (h5 : zc g ∈ zT) (hO : zO g n) (hR : rm.cells = 0 ∧ rm.slots = 0 ∧ rm.frames + 1 ≤ R.frames ∧ 8 + (g.2.2.1 + 11) + rm.locals ≤ R.locals) (hn : As.length = n) (hst : st0 = As.reverse ++ rest) (hW : (rest.map fun v => v.category).sum ≤ 8) (hd : decode cc pc = .ok (.invokestatic ix, 3)) (hf : kc ≤ R.cells ∧ ks ≤ R.slots) (kk : V p l e R s m args below meth c nL w L cl kc ks Q (pc + 3) lv (.long (zL z) :: rest) σ2) : V p l e R s m args below meth c nL w L cl kc ks Q pc lv st0 σ :=
  V_runl (fun ls H locs hsz hP => va_runSN (host := host) ⟨C.1, C.2.1, C.2.2.1, C.2.2.2.1, C.2.2.2.2.1⟩ (hM H.size) ⟨va_cnB n C.2.2.2.2.1 (zgN h5) rfl hR.1 hR.2.1 (C.2.2.2.2.2.2.2.2 _ h1) (C.2.2.2.2.1 _ h3) hO hR.2.2, C.2.2.2.2.1 _ h2, trivial⟩ (zPreS C hP As) rfl hn hsz hst (lv_room hW) hd hf) kk
theorem V_callVl (C : zC p s m args meth c cc nL own w L cl) {g : zG} {rm : Room} {n ix : Nat} {As rest st0 : List Value} {z : Int} {σ2 : Nat → Nat → Int} (k : Nat) (hk : k < L.1) {ci n0 : Nat} {fs : List (Nat × Nat)} (hd0 : L.2.1 k = (ci + 3, n0, fs)) {T : u_T} {N : Nat} (hc : cl[ci]? = some (g.1.cls, T, N)) (hM : zMl l w L cl g rm (.ref (w.1 k) :: As) σ z σ2) (h1 : Cond.methodLink own ix g.1 ∈ zT) (h2 : Cond.instanceMethod g.1 ∈ zT) (h3 : Cond.selects g.1.cls g.1 g.1 ∈ zT) (h4 : Cond.initialized g.1.cls ∈ zT) (h5 : zc g ∈ zT) (hO : zO g n) (hR : rm.cells = 0 ∧ rm.slots = 0 ∧ rm.frames + 1 ≤ R.frames ∧ 8 + (g.2.2.1 + 11) + rm.locals ≤ R.locals) (hn : As.length = n) (hst : st0 = As.reverse ++ .ref (w.1 k) :: rest) (hW : (rest.map fun v => v.category).sum ≤ 8) (hd : decode cc pc = .ok (.invokevirtual ix, 3)) (hf : kc ≤ R.cells ∧ ks ≤ R.slots) (kk : V p l e R s m args below meth c nL w L cl kc ks Q (pc + 3) lv (.long (zL z) :: rest) σ2) : V p l e R s m args below meth c nL w L cl kc ks Q pc lv st0 σ :=
  V_runl (fun ls H locs hsz hP => va_runV ⟨C.1, C.2.1, C.2.2.1, C.2.2.2.1, C.2.2.2.2.1⟩ (hM H.size) (cwV n C.2.2.2.2.1 (zgV h1 h2 h3 h4 h5) rfl hR.1 hR.2.1 ⟨rfl, hO⟩ hR.2.2) (zPreV C hP As k hk hd0 hc) rfl hn hsz hst (lv_room hW) hd hf) kk
theorem V_runv {st0 rest : List Value} {a : Array Value} {σ2 : Nat → Nat → Int} (hr : ∀ (ls : Array Slot) (H : Heap) (locs : List Loc), ls.size = nL → va_P w.2.1 cl (zX w L σ) H → va_Run p l e R s m args below meth c H locs kc ks 0 0 (F0 m pc ls st0) rest (zQv w L cl σ2 H.size a) (zA w L.1 H.size)) (kk : V p l e R s m args below meth c nL w L cl kc ks Q (pc + 3) lv rest σ2) : V p l e R s m args below meth c nL w L cl kc ks Q pc lv st0 σ := by
  intro ls H locs hl hP hS
  refine va_callv (hr ls H locs hl.1 hP) hS (fun x _ h => zA_mono hS.1 h) (fun x h => zA_mono hS.1 h) (fun u t H1 locs1 ht hvm hp hB hz1 hk1 hS1 => ?_)
  subst hp
  unfold zPost at hB
  rw [ht] at hB
  exact kk ls H1 locs1 hl hB hS1
theorem V_callSv (C : zC p s m args meth c cc nL own w L cl) {g : zG} {rm : Room} {n ix : Nat} {As rest st0 : List Value} {σ2 : Nat → Nat → Int} (hM : zMv l w L cl g rm As σ σ2) (h1 : Cond.methodLink own ix g.1 ∈ zT) (h2 : Cond.static g.1 ∈ zT) (h3 : Cond.initialized g.1.cls ∈ zT) (h5 : zc g ∈ zT) (hO : zO g n) (hR : rm.cells = 0 ∧ rm.slots = 0 ∧ rm.frames + 1 ≤ R.frames ∧ 8 + (g.2.2.1 + 11) + rm.locals ≤ R.locals) (hn : As.length = n) (hst : st0 = As.reverse ++ rest) (hW : (rest.map fun v => v.category).sum ≤ 8) (hd : decode cc pc = .ok (.invokestatic ix, 3)) (hf : kc ≤ R.cells ∧ ks ≤ R.slots) (kk : V p l e R s m args below meth c nL w L cl kc ks Q (pc + 3) lv rest σ2) : V p l e R s m args below meth c nL w L cl kc ks Q pc lv st0 σ :=
  V_runv (fun ls H locs hsz hP => va_runS ⟨C.1, C.2.1, C.2.2.1, C.2.2.2.1, C.2.2.2.2.1⟩ (hM H.size) (va_cwS n C.2.2.2.2.1 (zgJ h1 h2 h3 h5) rfl hR.1 hR.2.1 hO hR.2.2) (zPreS C hP As) rfl hn hsz hst (lv_room hW) hd hf) kk
theorem V_callNv (C : zC p s m args meth c cc nL own w L cl) {g : zG} {rm : Room} {n ix : Nat} {host : String} {As rest st0 : List Value} {σ2 : Nat → Nat → Int} (hM : zMv l w L cl g rm As σ σ2) (h1 : (own, ix, g.1, host) ∈ L.2.2) (h2 : Cond.static g.1 ∈ zT) (h3 : Cond.initialized g.1.cls ∈ zT) (h5 : zc g ∈ zT) (hO : zO g n) (hR : rm.cells = 0 ∧ rm.slots = 0 ∧ rm.frames + 1 ≤ R.frames ∧ 8 + (g.2.2.1 + 11) + rm.locals ≤ R.locals) (hn : As.length = n) (hst : st0 = As.reverse ++ rest) (hW : (rest.map fun v => v.category).sum ≤ 8) (hd : decode cc pc = .ok (.invokestatic ix, 3)) (hf : kc ≤ R.cells ∧ ks ≤ R.slots) (kk : V p l e R s m args below meth c nL w L cl kc ks Q (pc + 3) lv rest σ2) : V p l e R s m args below meth c nL w L cl kc ks Q pc lv st0 σ :=
  V_runv (fun ls H locs hsz hP => va_runSN (host := host) ⟨C.1, C.2.1, C.2.2.1, C.2.2.2.1, C.2.2.2.2.1⟩ (hM H.size) ⟨va_cnB n C.2.2.2.2.1 (zgN h5) rfl hR.1 hR.2.1 (C.2.2.2.2.2.2.2.2 _ h1) (C.2.2.2.2.1 _ h3) hO hR.2.2, C.2.2.2.2.1 _ h2, trivial⟩ (zPreS C hP As) rfl hn hsz hst (lv_room hW) hd hf) kk
theorem V_callVv (C : zC p s m args meth c cc nL own w L cl) {g : zG} {rm : Room} {n ix : Nat} {As rest st0 : List Value} {σ2 : Nat → Nat → Int} (k : Nat) (hk : k < L.1) {ci n0 : Nat} {fs : List (Nat × Nat)} (hd0 : L.2.1 k = (ci + 3, n0, fs)) {T : u_T} {N : Nat} (hc : cl[ci]? = some (g.1.cls, T, N)) (hM : zMv l w L cl g rm (.ref (w.1 k) :: As) σ σ2) (h1 : Cond.methodLink own ix g.1 ∈ zT) (h2 : Cond.instanceMethod g.1 ∈ zT) (h3 : Cond.selects g.1.cls g.1 g.1 ∈ zT) (h4 : Cond.initialized g.1.cls ∈ zT) (h5 : zc g ∈ zT) (hO : zO g n) (hR : rm.cells = 0 ∧ rm.slots = 0 ∧ rm.frames + 1 ≤ R.frames ∧ 8 + (g.2.2.1 + 11) + rm.locals ≤ R.locals) (hn : As.length = n) (hst : st0 = As.reverse ++ .ref (w.1 k) :: rest) (hW : (rest.map fun v => v.category).sum ≤ 8) (hd : decode cc pc = .ok (.invokevirtual ix, 3)) (hf : kc ≤ R.cells ∧ ks ≤ R.slots) (kk : V p l e R s m args below meth c nL w L cl kc ks Q (pc + 3) lv rest σ2) : V p l e R s m args below meth c nL w L cl kc ks Q pc lv st0 σ :=
  V_runv (fun ls H locs hsz hP => va_runV ⟨C.1, C.2.1, C.2.2.1, C.2.2.2.1, C.2.2.2.2.1⟩ (hM H.size) (cwV n C.2.2.2.2.1 (zgV h1 h2 h3 h4 h5) rfl hR.1 hR.2.1 ⟨rfl, hO⟩ hR.2.2) (zPreV C hP As k hk hd0 hc) rfl hn hsz hst (lv_room hW) hd hf) kk
/-- Math.min, Math.max, System.arraycopy of longs -/
theorem V_imin (C : zC p s m args meth c cc nL own w L cl) {ix : Nat} {a b : Int} (hlk : Cond.methodLink own ix Lib.Math.min.name ∈ zT) (hsta : Cond.static Lib.Math.min.name ∈ zT) (hini : Cond.initialized "java/lang/Math" ∈ zT) (hcode : Cond.code Lib.Math.min.name Lib.Math.min.code 2 (some .int) ∈ zT) (hfr : 1 ≤ R.frames) (hlo : (st.map fun v => v.category).sum + 13 ≤ R.locals) (hc : kc ≤ R.cells) (hs : ks ≤ R.slots) (ha : rI a) (hb : rI b) (hd : decode cc pc = .ok (.invokestatic ix, 3)) (kk : V p l e R s m args below meth c nL w L cl kc ks Q (pc + 3) lv (.int (zI (min a b)) :: st) σ) : V p l e R s m args below meth c nL w L cl kc ks Q pc lv (.int (zI b) :: .int (zI a) :: st) σ := by
  intro ls H locs hl hP hS
  refine va_mmin C.1 C.2.1 (C.2.2.1.trans hl.1.symm) C.2.2.2.1 (C.2.2.2.2.1 _ hlk) (C.2.2.2.2.1 _ hsta) (C.2.2.2.2.1 _ hini) (C.2.2.2.2.1 _ hcode) hfr hlo hc hs hd ?_
  have h := kk ls H locs hl hP hS
  by_cases h1 : b < a
  · rw [if_pos ((zI_lt hb ha).mpr h1)]
    rw [show min a b = b by omega] at h
    exact h
  · rw [if_neg (fun z => h1 ((zI_lt hb ha).mp z))]
    rw [show min a b = a by omega] at h
    exact h
theorem V_imax (C : zC p s m args meth c cc nL own w L cl) {ix : Nat} {a b : Int} (hlk : Cond.methodLink own ix Lib.Math.max.name ∈ zT) (hsta : Cond.static Lib.Math.max.name ∈ zT) (hini : Cond.initialized "java/lang/Math" ∈ zT) (hcode : Cond.code Lib.Math.max.name Lib.Math.max.code 2 (some .int) ∈ zT) (hfr : 1 ≤ R.frames) (hlo : (st.map fun v => v.category).sum + 13 ≤ R.locals) (hc : kc ≤ R.cells) (hs : ks ≤ R.slots) (ha : rI a) (hb : rI b) (hd : decode cc pc = .ok (.invokestatic ix, 3)) (kk : V p l e R s m args below meth c nL w L cl kc ks Q (pc + 3) lv (.int (zI (max a b)) :: st) σ) : V p l e R s m args below meth c nL w L cl kc ks Q pc lv (.int (zI b) :: .int (zI a) :: st) σ := by
  intro ls H locs hl hP hS
  refine va_mmax C.1 C.2.1 (C.2.2.1.trans hl.1.symm) C.2.2.2.1 (C.2.2.2.2.1 _ hlk) (C.2.2.2.2.1 _ hsta) (C.2.2.2.2.1 _ hini) (C.2.2.2.2.1 _ hcode) hfr hlo hc hs hd ?_
  have h := kk ls H locs hl hP hS
  by_cases h1 : a < b
  · rw [if_pos ((zI_lt ha hb).mpr h1)]
    rw [show max a b = b by omega] at h
    exact h
  · rw [if_neg (fun z => h1 ((zI_lt ha hb).mp z))]
    rw [show max a b = a by omega] at h
    exact h
theorem V_lmin (C : zC p s m args meth c cc nL own w L cl) {ix : Nat} {a b : Int} (hlk : Cond.methodLink own ix Lib.MathLoose.min_long.x ∈ zT) (hsta : Cond.static Lib.MathLoose.min_long.x ∈ zT) (hini : Cond.initialized "java/lang/Math" ∈ zT) (hcode : Cond.code Lib.MathLoose.min_long.x Lib.MathLoose.min_long.code 4 (some .long) ∈ zT) (hfr : 1 ≤ R.frames) (hlo : (st.map fun v => v.category).sum + 15 ≤ R.locals) (hc : kc ≤ R.cells) (hs : ks ≤ R.slots) (ha : rL a) (hb : rL b) (hd : decode cc pc = .ok (.invokestatic ix, 3)) (kk : V p l e R s m args below meth c nL w L cl kc ks Q (pc + 3) lv (.long (zL (min a b)) :: st) σ) : V p l e R s m args below meth c nL w L cl kc ks Q pc lv (.long (zL b) :: .long (zL a) :: st) σ := by
  intro ls H locs hl hP hS
  refine va_mmin_long C.1 C.2.1 (C.2.2.1.trans hl.1.symm) C.2.2.2.1 (C.2.2.2.2.1 _ hlk) (C.2.2.2.2.1 _ hsta) (C.2.2.2.2.1 _ hini) (C.2.2.2.2.1 _ hcode) hfr hlo hc hs hd ?_
  have h := kk ls H locs hl hP hS
  by_cases h1 : b < a
  · rw [if_pos ((zL_lt hb ha).mpr h1)]
    rw [show min a b = b by omega] at h
    exact h
  · rw [if_neg (fun z => h1 ((zL_lt hb ha).mp z))]
    rw [show min a b = a by omega] at h
    exact h
/-- all n places of the long[] k0 into the long[] k1 of the same length -/
theorem V_copyl (C : zC p s m args meth c cc nL own w L cl) {ix : Nat} (k0 k1 n : Nat) (hk0 : k0 < L.1) (hk1 : k1 < L.1) {fs0 fs1 : List (Nat × Nat)} (hd0 : L.2.1 k0 = (1, n, fs0)) (hd1 : L.2.1 k1 = (1, n, fs1)) (hn : n < 2 ^ 31) (hlk : Cond.methodLink own ix arraycopyName ∈ zT) (hnat : Cond.native arraycopyName ∈ zT) (hsta : Cond.static arraycopyName ∈ zT) (hini : Cond.initialized "java/lang/System" ∈ zT) (hfr : 1 ≤ R.frames) (hlo : (st.map fun v => v.category).sum + (nativeFrameWords "java/lang/System" "arraycopy" 5 + 11) ≤ R.locals) (hd : decode cc pc = .ok (.invokestatic ix, 3)) (kk : V p l e R s m args below meth c nL w L cl kc ks Q (pc + 3) lv st (zUA σ k1 (fun j => if j < n then σ k0 j else σ k1 j))) : V p l e R s m args below meth c nL w L cl kc ks Q pc lv (.int (zI (n : Int)) :: .int (zI 0) :: .ref (w.1 k1) :: .int (zI 0) :: .ref (w.1 k0) :: st) σ := by
  intro ls H locs hl hP hS
  have hn0 : ¬ (zI (n : Int)) < 0 := by rw [zI_nat]; exact nI_pos hn
  have h00 : ¬ (zI 0) < 0 := by decide
  have hc0 : (zI 0).toNatClampNeg = 0 := by decide
  refine va_copyl C.1 C.2.1 (C.2.2.1.trans hl.1.symm) C.2.2.2.1 (C.2.2.2.2.1 _ hlk) (C.2.2.2.2.1 _ hnat) (C.2.2.2.2.1 _ hsta) (C.2.2.2.2.1 _ hini) C.2.2.2.2.2.1 hP (zX_D C.2.2.2.2.2.2.1) hS k0 k1 1 1 (c0 := (w.2.2 1)) (c1 := (w.2.2 1)) (n0 := n) (n1 := n) (f := fun j => zL (σ k0 j)) (g := fun j => zL (σ k1 j)) (ty := .long) (by rw [zX_get hk0, hd0]; rfl) (by rw [zX_get hk1, hd1]; rfl) rfl rfl rfl h00 h00 hn0 (by rw [hc0, zI_cl hn]; omega) (by rw [hc0, zI_cl hn]; omega) (fun _ _ => rfl) hfr hlo hd (fun H1 locs1 hP1 _ hS1 => ?_)
  rw [hc0, zI_cl hn] at hP1
  rw [zX_set (σ' := zUA σ k1 (fun j => if j < n then σ k0 j else σ k1 j)) (by
    rw [hd1]; show Sum.inl _ = Sum.inl _; congr 4; refine congrArg Sum.inl ?_; funext j; unfold va_cpy; rw [zUA_self]; by_cases h : j < n <;> simp [h]) (fun k' h => zUA_ne h)] at hP1
  exact kk ls H1 locs1 hl hP1 hS1
end ZV
end
section
/-! NAMES, by program (wip/whole/names.py): classes, methods, words, the store's layout -/
def R_rp : String := "RoundPlans"
def T_rp : u_T := fun k => match k with
  | 0 => ("RoundPlans", "told", "LRoundPlans$Told;", true)
  | 1 => ("RoundPlans", "rounds", "LRoundPlans$Rounds;", true)
  | 2 => ("RoundPlans", "plans", "LRoundPlans$Plans;", true)
  | _ => ("RoundPlans", "found", "LRoundPlans$Found;", true)
def ty_rp : Nat → FieldType := fun k => match k with
  | 0 => .object "RoundPlans$Told"
  | 1 => .object "RoundPlans$Rounds"
  | 2 => .object "RoundPlans$Plans"
  | _ => .object "RoundPlans$Found"
theorem nm_rp : ∀ a, a < 4 → ∀ b, b < 4 → a ≠ b → (T_rp a).2.1 ≠ (T_rp b).2.1 := by decide +kernel
theorem tk_rp : ∀ k, k < 4 → parseFieldDescriptor (T_rp k).2.2.1 = some (ty_rp k) := by decide +kernel
set_option maxRecDepth 100000 in
theorem in_rp : ∀ x ∈ u_ws R_rp T_rp 4, x ∈ zT := by
  have h : ∀ x ∈ u_ws R_rp T_rp 4, x ∈ tables_1 ∧ goodWord x = true := by decide +kernel
  exact fun x hx => List.mem_filter.mpr ⟨List.mem_append_right _ (h x hx).1, (h x hx).2⟩
def R_td : String := "RoundPlans$Told"
def T_td : u_T := fun k => match k with
  | 0 => ("RoundPlans$Told", "stops", "I", false)
  | 1 => ("RoundPlans$Told", "vehicles", "I", false)
  | 2 => ("RoundPlans$Told", "kilograms", "[I", true)
  | 3 => ("RoundPlans$Told", "first", "[I", true)
  | 4 => ("RoundPlans$Told", "last", "[I", true)
  | 5 => ("RoundPlans$Told", "service", "[I", true)
  | 6 => ("RoundPlans$Told", "penalties", "[J", true)
  | 7 => ("RoundPlans$Told", "fixedTo", "[I", true)
  | 8 => ("RoundPlans$Told", "apartFrom", "[I", true)
  | 9 => ("RoundPlans$Told", "ahead", "[I", true)
  | 10 => ("RoundPlans$Told", "behind", "[I", true)
  | 11 => ("RoundPlans$Told", "reached", "[I", true)
  | 12 => ("RoundPlans$Told", "most", "[I", true)
  | 13 => ("RoundPlans$Told", "leaving", "[I", true)
  | 14 => ("RoundPlans$Told", "due", "[I", true)
  | 15 => ("RoundPlans$Told", "rate", "[I", true)
  | _ => ("RoundPlans$Told", "ways", "[I", true)
def ty_td : Nat → FieldType := fun k => match k with
  | 0 => .int
  | 1 => .int
  | 2 => .array .int
  | 3 => .array .int
  | 4 => .array .int
  | 5 => .array .int
  | 6 => .array .long
  | 7 => .array .int
  | 8 => .array .int
  | 9 => .array .int
  | 10 => .array .int
  | 11 => .array .int
  | 12 => .array .int
  | 13 => .array .int
  | 14 => .array .int
  | 15 => .array .int
  | _ => .array .int
theorem nm_td : ∀ a, a < 17 → ∀ b, b < 17 → a ≠ b → (T_td a).2.1 ≠ (T_td b).2.1 := by decide +kernel
theorem tk_td : ∀ k, k < 17 → parseFieldDescriptor (T_td k).2.2.1 = some (ty_td k) := by decide +kernel
set_option maxRecDepth 100000 in
theorem in_td : ∀ x ∈ u_ws R_td T_td 17, x ∈ zT := by
  have h : ∀ x ∈ u_ws R_td T_td 17, x ∈ tables_1 ∧ goodWord x = true := by decide +kernel
  exact fun x hx => List.mem_filter.mpr ⟨List.mem_append_right _ (h x hx).1, (h x hx).2⟩
def R_rd : String := "RoundPlans$Rounds"
def T_rd : u_T := fun k => match k with
  | 0 => ("RoundPlans$Rounds", "told", "LRoundPlans$Told;", true)
  | 1 => ("RoundPlans$Rounds", "backs", "[I", true)
  | 2 => ("RoundPlans$Rounds", "ready", "[I", true)
  | _ => ("RoundPlans$Rounds", "latest", "[I", true)
def ty_rd : Nat → FieldType := fun k => match k with
  | 0 => .object "RoundPlans$Told"
  | 1 => .array .int
  | 2 => .array .int
  | _ => .array .int
theorem nm_rd : ∀ a, a < 4 → ∀ b, b < 4 → a ≠ b → (T_rd a).2.1 ≠ (T_rd b).2.1 := by decide +kernel
theorem tk_rd : ∀ k, k < 4 → parseFieldDescriptor (T_rd k).2.2.1 = some (ty_rd k) := by decide +kernel
set_option maxRecDepth 100000 in
theorem in_rd : ∀ x ∈ u_ws R_rd T_rd 4, x ∈ zT := by
  have h : ∀ x ∈ u_ws R_rd T_rd 4, x ∈ tables_1 ∧ goodWord x = true := by decide +kernel
  exact fun x hx => List.mem_filter.mpr ⟨List.mem_append_right _ (h x hx).1, (h x hx).2⟩
def R_pl : String := "RoundPlans$Plans"
def T_pl : u_T := fun k => match k with
  | 0 => ("RoundPlans$Plans", "told", "LRoundPlans$Told;", true)
  | 1 => ("RoundPlans$Plans", "rounds", "LRoundPlans$Rounds;", true)
  | 2 => ("RoundPlans$Plans", "prices", "[J", true)
  | 3 => ("RoundPlans$Plans", "skips", "[J", true)
  | _ => ("RoundPlans$Plans", "least", "[J", true)
def ty_pl : Nat → FieldType := fun k => match k with
  | 0 => .object "RoundPlans$Told"
  | 1 => .object "RoundPlans$Rounds"
  | 2 => .array .long
  | 3 => .array .long
  | _ => .array .long
theorem nm_pl : ∀ a, a < 5 → ∀ b, b < 5 → a ≠ b → (T_pl a).2.1 ≠ (T_pl b).2.1 := by decide +kernel
theorem tk_pl : ∀ k, k < 5 → parseFieldDescriptor (T_pl k).2.2.1 = some (ty_pl k) := by decide +kernel
set_option maxRecDepth 100000 in
theorem in_pl : ∀ x ∈ u_ws R_pl T_pl 5, x ∈ zT := by
  have h : ∀ x ∈ u_ws R_pl T_pl 5, x ∈ tables_1 ∧ goodWord x = true := by decide +kernel
  exact fun x hx => List.mem_filter.mpr ⟨List.mem_append_right _ (h x hx).1, (h x hx).2⟩
def R_fd : String := "RoundPlans$Found"
def T_fd : u_T := fun k => match k with
  | 0 => ("RoundPlans$Found", "stopCount", "I", false)
  | 1 => ("RoundPlans$Found", "vehicleCount", "I", false)
  | 2 => ("RoundPlans$Found", "cents", "J", false)
  | 3 => ("RoundPlans$Found", "vehicles", "[I", true)
  | 4 => ("RoundPlans$Found", "begins", "[I", true)
  | 5 => ("RoundPlans$Found", "order", "[I", true)
  | 6 => ("RoundPlans$Found", "lengths", "[I", true)
  | 7 => ("RoundPlans$Found", "backs", "[I", true)
  | _ => ("RoundPlans$Found", "more", "[J", true)
def ty_fd : Nat → FieldType := fun k => match k with
  | 0 => .int
  | 1 => .int
  | 2 => .long
  | 3 => .array .int
  | 4 => .array .int
  | 5 => .array .int
  | 6 => .array .int
  | 7 => .array .int
  | _ => .array .long
theorem nm_fd : ∀ a, a < 9 → ∀ b, b < 9 → a ≠ b → (T_fd a).2.1 ≠ (T_fd b).2.1 := by decide +kernel
theorem tk_fd : ∀ k, k < 9 → parseFieldDescriptor (T_fd k).2.2.1 = some (ty_fd k) := by decide +kernel
set_option maxRecDepth 100000 in
theorem in_fd : ∀ x ∈ u_ws R_fd T_fd 9, x ∈ zT := by
  have h : ∀ x ∈ u_ws R_fd T_fd 9, x ∈ tables_1 ∧ goodWord x = true := by decide +kernel
  exact fun x hx => List.mem_filter.mpr ⟨List.mem_append_right _ (h x hx).1, (h x hx).2⟩
def R_md : String := "RoundPlansModel"
def T_md : u_T := fun k => match k with
  | 0 => ("RoundPlansModel", "stops", "I", false)
  | 1 => ("RoundPlansModel", "loads", "[I", true)
  | 2 => ("RoundPlansModel", "firsts", "[I", true)
  | 3 => ("RoundPlansModel", "lasts", "[I", true)
  | 4 => ("RoundPlansModel", "services", "[I", true)
  | 5 => ("RoundPlansModel", "penalties", "[J", true)
  | 6 => ("RoundPlansModel", "fixedTo", "[I", true)
  | 7 => ("RoundPlansModel", "apart", "[Z", true)
  | 8 => ("RoundPlansModel", "before", "[Z", true)
  | 9 => ("RoundPlansModel", "vehicles", "I", false)
  | 10 => ("RoundPlansModel", "mosts", "[I", true)
  | 11 => ("RoundPlansModel", "leaves", "[I", true)
  | 12 => ("RoundPlansModel", "backs", "[I", true)
  | 13 => ("RoundPlansModel", "rates", "[I", true)
  | 14 => ("RoundPlansModel", "ways", "[I", true)
  | 15 => ("RoundPlansModel", "early", "[I", true)
  | 16 => ("RoundPlansModel", "rows", "[I", true)
  | 17 => ("RoundPlansModel", "trial", "[I", true)
  | 18 => ("RoundPlansModel", "isFound", "Z", false)
  | 19 => ("RoundPlansModel", "foundStops", "I", false)
  | 20 => ("RoundPlansModel", "foundVehicles", "I", false)
  | 21 => ("RoundPlansModel", "foundCost", "J", false)
  | 22 => ("RoundPlansModel", "vehicleOf", "[I", true)
  | 23 => ("RoundPlansModel", "begins", "[I", true)
  | 24 => ("RoundPlansModel", "rounds", "[I", true)
  | 25 => ("RoundPlansModel", "counts", "[I", true)
  | 26 => ("RoundPlansModel", "backAt", "[I", true)
  | _ => ("RoundPlansModel", "saves", "[J", true)
def ty_md : Nat → FieldType := fun k => match k with
  | 0 => .int
  | 1 => .array .int
  | 2 => .array .int
  | 3 => .array .int
  | 4 => .array .int
  | 5 => .array .long
  | 6 => .array .int
  | 7 => .array .boolean
  | 8 => .array .boolean
  | 9 => .int
  | 10 => .array .int
  | 11 => .array .int
  | 12 => .array .int
  | 13 => .array .int
  | 14 => .array .int
  | 15 => .array .int
  | 16 => .array .int
  | 17 => .array .int
  | 18 => .boolean
  | 19 => .int
  | 20 => .int
  | 21 => .long
  | 22 => .array .int
  | 23 => .array .int
  | 24 => .array .int
  | 25 => .array .int
  | 26 => .array .int
  | _ => .array .long
theorem nm_md : ∀ a, a < 28 → ∀ b, b < 28 → a ≠ b → (T_md a).2.1 ≠ (T_md b).2.1 := by decide +kernel
theorem tk_md : ∀ k, k < 28 → parseFieldDescriptor (T_md k).2.2.1 = some (ty_md k) := by decide +kernel
set_option maxRecDepth 100000 in
theorem in_md : ∀ x ∈ u_ws R_md T_md 28, x ∈ zT := by
  have h : ∀ x ∈ u_ws R_md T_md 28, x ∈ tables_1 ∧ goodWord x = true := by decide +kernel
  exact fun x hx => List.mem_filter.mpr ⟨List.mem_append_right _ (h x hx).1, (h x hx).2⟩
abbrev CC : List vw_C := [(R_rp, T_rp, 4), (R_td, T_td, 17), (R_rd, T_rd, 4), (R_pl, T_pl, 5), (R_fd, T_fd, 9), (R_md, T_md, 28)]
def lay : List (Nat × Nat × List (Nat × Nat)) := [(3, 0, [(2, 1), (2, 17), (2, 21), (2, 25)]), (4, 0, [(0, 0), (0, 0), (2, 2), (2, 3), (2, 4), (2, 5), (2, 6), (2, 7), (2, 8), (2, 9), (2, 10), (2, 11), (2, 12), (2, 13), (2, 14), (2, 15), (2, 16)]), (0, 7, []), (0, 7, []), (0, 7, []), (0, 7, []), (1, 7, []), (0, 7, []), (0, 7, []), (0, 7, []), (0, 7, []), (0, 7, []), (0, 3, []), (0, 3, []), (0, 3, []), (0, 3, []), (0, 64, []), (5, 0, [(2, 1), (2, 18), (2, 19), (2, 20)]), (0, 384, []), (0, 896, []), (0, 896, []), (6, 0, [(2, 1), (2, 17), (2, 22), (2, 23), (2, 24)]), (1, 384, []), (1, 128, []), (1, 128, []), (7, 0, [(0, 0), (0, 0), (1, 0), (2, 26), (2, 27), (2, 28), (2, 29), (2, 30), (2, 31)]), (0, 7, []), (0, 7, []), (0, 21, []), (0, 3, []), (0, 3, []), (1, 3, []), (8, 0, [(0, 0), (2, 33), (2, 34), (2, 35), (2, 36), (2, 37), (2, 38), (2, 39), (2, 40), (0, 0), (2, 41), (2, 42), (2, 43), (2, 44), (2, 45), (2, 46), (2, 47), (2, 48), (0, 0), (0, 0), (0, 0), (1, 0), (2, 49), (2, 50), (2, 51), (2, 52), (2, 53), (2, 54)]), (0, 7, []), (0, 7, []), (0, 7, []), (0, 7, []), (1, 7, []), (0, 7, []), (2, 49, []), (2, 49, []), (0, 3, []), (0, 3, []), (0, 3, []), (0, 3, []), (0, 64, []), (0, 384, []), (0, 384, []), (0, 7, []), (0, 7, []), (0, 7, []), (0, 3, []), (0, 3, []), (0, 3, []), (1, 3, [])]
def LL : zY := (55, fun k => lay.getD k (0, 0, []), [("RoundPlans$Found", 51, ⟨"RoundPlans", "costIn", "(J)J"⟩, "RoundPlans"), ("RoundPlans$Found", 55, ⟨"RoundPlans", "vehicleIn", "(JI)I"⟩, "RoundPlans"), ("RoundPlans$Plans", 67, ⟨"RoundPlans", "holds", "(II)Z"⟩, "RoundPlans"), ("RoundPlans$Plans", 74, ⟨"RoundPlans", "codeShift", "(I)I"⟩, "RoundPlans"), ("RoundPlans$Rounds", 43, ⟨"RoundPlans", "holds", "(II)Z"⟩, "RoundPlans"), ("RoundPlans$Rounds", 73, ⟨"RoundPlans", "without", "(II)I"⟩, "RoundPlans"), ("RoundPlans$Told", 76, ⟨"RoundPlans", "with", "(II)I"⟩, "RoundPlans"), ("RoundPlans$Told", 80, ⟨"RoundPlans", "without", "(II)I"⟩, "RoundPlans"), ("RoundPlans$Told", 83, ⟨"RoundPlans", "holds", "(II)Z"⟩, "RoundPlans")])
theorem ns_0 : (("RoundPlans$Found", 51, ⟨"RoundPlans", "costIn", "(J)J"⟩, "RoundPlans") : String × Nat × MethodName × String) ∈ LL.2.2 := List.mem_of_getElem? (i := 0) rfl
theorem ns_1 : (("RoundPlans$Found", 55, ⟨"RoundPlans", "vehicleIn", "(JI)I"⟩, "RoundPlans") : String × Nat × MethodName × String) ∈ LL.2.2 := List.mem_of_getElem? (i := 1) rfl
theorem ns_2 : (("RoundPlans$Plans", 67, ⟨"RoundPlans", "holds", "(II)Z"⟩, "RoundPlans") : String × Nat × MethodName × String) ∈ LL.2.2 := List.mem_of_getElem? (i := 2) rfl
theorem ns_3 : (("RoundPlans$Plans", 74, ⟨"RoundPlans", "codeShift", "(I)I"⟩, "RoundPlans") : String × Nat × MethodName × String) ∈ LL.2.2 := List.mem_of_getElem? (i := 3) rfl
theorem ns_4 : (("RoundPlans$Rounds", 43, ⟨"RoundPlans", "holds", "(II)Z"⟩, "RoundPlans") : String × Nat × MethodName × String) ∈ LL.2.2 := List.mem_of_getElem? (i := 4) rfl
theorem ns_5 : (("RoundPlans$Rounds", 73, ⟨"RoundPlans", "without", "(II)I"⟩, "RoundPlans") : String × Nat × MethodName × String) ∈ LL.2.2 := List.mem_of_getElem? (i := 5) rfl
theorem ns_6 : (("RoundPlans$Told", 76, ⟨"RoundPlans", "with", "(II)I"⟩, "RoundPlans") : String × Nat × MethodName × String) ∈ LL.2.2 := List.mem_of_getElem? (i := 6) rfl
theorem ns_7 : (("RoundPlans$Told", 80, ⟨"RoundPlans", "without", "(II)I"⟩, "RoundPlans") : String × Nat × MethodName × String) ∈ LL.2.2 := List.mem_of_getElem? (i := 7) rfl
theorem ns_8 : (("RoundPlans$Told", 83, ⟨"RoundPlans", "holds", "(II)Z"⟩, "RoundPlans") : String × Nat × MethodName × String) ∈ LL.2.2 := List.mem_of_getElem? (i := 8) rfl
def g_rp_init : zG := (⟨"RoundPlans", "<init>", "()V"⟩, prog_1_method_1_code, 1, none)
theorem o_rp_init : zO g_rp_init 0 := by unfold zO; decide +kernel
def g_rp_stop : zG := (⟨"RoundPlans", "stop", "(I)I"⟩, prog_1_method_2_code, 2, (some .int))
theorem o_rp_stop : zO g_rp_stop 1 := by unfold zO; decide +kernel
def g_rp_hours : zG := (⟨"RoundPlans", "hours", "(IIII)Z"⟩, prog_1_method_3_code, 5, (some .boolean))
theorem o_rp_hours : zO g_rp_hours 4 := by unfold zO; decide +kernel
def g_rp_penalty : zG := (⟨"RoundPlans", "penalty", "(IJ)Z"⟩, prog_1_method_4_code, 4, (some .boolean))
theorem o_rp_penalty : zO g_rp_penalty 2 := by unfold zO; decide +kernel
def g_rp_vehicle : zG := (⟨"RoundPlans", "vehicle", "(IIII)I"⟩, prog_1_method_5_code, 5, (some .int))
theorem o_rp_vehicle : zO g_rp_vehicle 4 := by unfold zO; decide +kernel
def g_rp_way : zG := (⟨"RoundPlans", "way", "(III)Z"⟩, prog_1_method_6_code, 4, (some .boolean))
theorem o_rp_way : zO g_rp_way 3 := by unfold zO; decide +kernel
def g_rp_fixed : zG := (⟨"RoundPlans", "fixed", "(II)Z"⟩, prog_1_method_7_code, 3, (some .boolean))
theorem o_rp_fixed : zO g_rp_fixed 2 := by unfold zO; decide +kernel
def g_rp_apart : zG := (⟨"RoundPlans", "apart", "(IIZ)Z"⟩, prog_1_method_8_code, 4, (some .boolean))
theorem o_rp_apart : zO g_rp_apart 3 := by unfold zO; decide +kernel
def g_rp_before : zG := (⟨"RoundPlans", "before", "(II)Z"⟩, prog_1_method_9_code, 3, (some .boolean))
theorem o_rp_before : zO g_rp_before 2 := by unfold zO; decide +kernel
def g_rp_run : zG := (⟨"RoundPlans", "run", "()I"⟩, prog_1_method_10_code, 5, (some .int))
theorem o_rp_run : zO g_rp_run 0 := by unfold zO; decide +kernel
def g_rp_cost : zG := (⟨"RoundPlans", "cost", "()J"⟩, prog_1_method_11_code, 1, (some .long))
theorem o_rp_cost : zO g_rp_cost 0 := by unfold zO; decide +kernel
def g_rp_vehicleOf : zG := (⟨"RoundPlans", "vehicleOf", "(I)I"⟩, prog_1_method_12_code, 2, (some .int))
theorem o_rp_vehicleOf : zO g_rp_vehicleOf 1 := by unfold zO; decide +kernel
def g_rp_at : zG := (⟨"RoundPlans", "at", "(II)I"⟩, prog_1_method_13_code, 3, (some .int))
theorem o_rp_at : zO g_rp_at 2 := by unfold zO; decide +kernel
def g_rp_begun : zG := (⟨"RoundPlans", "begun", "(I)I"⟩, prog_1_method_14_code, 2, (some .int))
theorem o_rp_begun : zO g_rp_begun 1 := by unfold zO; decide +kernel
def g_rp_back : zG := (⟨"RoundPlans", "back", "(I)I"⟩, prog_1_method_15_code, 2, (some .int))
theorem o_rp_back : zO g_rp_back 1 := by unfold zO; decide +kernel
def g_rp_saved : zG := (⟨"RoundPlans", "saved", "(I)J"⟩, prog_1_method_16_code, 2, (some .long))
theorem o_rp_saved : zO g_rp_saved 1 := by unfold zO; decide +kernel
def g_rp_isWithin : zG := (⟨"RoundPlans", "isWithin", "(II)Z"⟩, prog_1_method_17_code, 2, (some .boolean))
theorem o_rp_isWithin : zO g_rp_isWithin 2 := by unfold zO; decide +kernel
def g_rp_isSpan : zG := (⟨"RoundPlans", "isSpan", "(II)Z"⟩, prog_1_method_18_code, 2, (some .boolean))
theorem o_rp_isSpan : zO g_rp_isSpan 2 := by unfold zO; decide +kernel
def g_rp_holds : zG := (⟨"RoundPlans", "holds", "(II)Z"⟩, prog_1_method_19_code, 2, (some .boolean))
theorem o_rp_holds : zO g_rp_holds 2 := by unfold zO; decide +kernel
def g_rp_with : zG := (⟨"RoundPlans", "with", "(II)I"⟩, prog_1_method_20_code, 2, (some .int))
theorem o_rp_with : zO g_rp_with 2 := by unfold zO; decide +kernel
def g_rp_without : zG := (⟨"RoundPlans", "without", "(II)I"⟩, prog_1_method_21_code, 2, (some .int))
theorem o_rp_without : zO g_rp_without 2 := by unfold zO; decide +kernel
def g_rp_codeShift : zG := (⟨"RoundPlans", "codeShift", "(I)I"⟩, prog_1_method_22_code, 1, (some .int))
theorem o_rp_codeShift : zO g_rp_codeShift 1 := by unfold zO; decide +kernel
def g_rp_costIn : zG := (⟨"RoundPlans", "costIn", "(J)J"⟩, prog_1_method_23_code, 2, (some .long))
theorem o_rp_costIn : zO g_rp_costIn 1 := by unfold zO; decide +kernel
def g_rp_vehicleIn : zG := (⟨"RoundPlans", "vehicleIn", "(JI)I"⟩, prog_1_method_24_code, 3, (some .int))
theorem o_rp_vehicleIn : zO g_rp_vehicleIn 2 := by unfold zO; decide +kernel
def g_rp_setIn : zG := (⟨"RoundPlans", "setIn", "(JII)I"⟩, prog_1_method_25_code, 6, (some .int))
theorem o_rp_setIn : zO g_rp_setIn 3 := by unfold zO; decide +kernel
def g_md_init : zG := (⟨"RoundPlansModel", "<init>", "()V"⟩, prog_7_method_1_code, 2, none)
theorem o_md_init : zO g_md_init 0 := by unfold zO; decide +kernel
def g_md_isIn : zG := (⟨"RoundPlansModel", "isIn", "(JJJ)Z"⟩, prog_7_method_3_code, 6, (some .boolean))
theorem o_md_isIn : zO g_md_isIn 3 := by unfold zO; decide +kernel
def g_md_isStop : zG := (⟨"RoundPlansModel", "isStop", "(I)Z"⟩, prog_7_method_4_code, 2, (some .boolean))
theorem o_md_isStop : zO g_md_isStop 1 := by unfold zO; decide +kernel
def g_md_arePair : zG := (⟨"RoundPlansModel", "arePair", "(II)Z"⟩, prog_7_method_5_code, 3, (some .boolean))
theorem o_md_arePair : zO g_md_arePair 2 := by unfold zO; decide +kernel
def g_md_stop : zG := (⟨"RoundPlansModel", "stop", "(I)I"⟩, prog_7_method_6_code, 2, (some .int))
theorem o_md_stop : zO g_md_stop 1 := by unfold zO; decide +kernel
def g_md_hours : zG := (⟨"RoundPlansModel", "hours", "(IIII)Z"⟩, prog_7_method_7_code, 5, (some .boolean))
theorem o_md_hours : zO g_md_hours 4 := by unfold zO; decide +kernel
def g_md_penalty : zG := (⟨"RoundPlansModel", "penalty", "(IJ)Z"⟩, prog_7_method_8_code, 4, (some .boolean))
theorem o_md_penalty : zO g_md_penalty 2 := by unfold zO; decide +kernel
def g_md_vehicle : zG := (⟨"RoundPlansModel", "vehicle", "(IIII)I"⟩, prog_7_method_9_code, 5, (some .int))
theorem o_md_vehicle : zO g_md_vehicle 4 := by unfold zO; decide +kernel
def g_md_way : zG := (⟨"RoundPlansModel", "way", "(III)Z"⟩, prog_7_method_10_code, 4, (some .boolean))
theorem o_md_way : zO g_md_way 3 := by unfold zO; decide +kernel
def g_md_fixed : zG := (⟨"RoundPlansModel", "fixed", "(II)Z"⟩, prog_7_method_11_code, 3, (some .boolean))
theorem o_md_fixed : zO g_md_fixed 2 := by unfold zO; decide +kernel
def g_md_apart : zG := (⟨"RoundPlansModel", "apart", "(IIZ)Z"⟩, prog_7_method_12_code, 4, (some .boolean))
theorem o_md_apart : zO g_md_apart 3 := by unfold zO; decide +kernel
def g_md_leads : zG := (⟨"RoundPlansModel", "leads", "(II)Z"⟩, prog_7_method_13_code, 7, (some .boolean))
theorem o_md_leads : zO g_md_leads 2 := by unfold zO; decide +kernel
def g_md_before : zG := (⟨"RoundPlansModel", "before", "(II)Z"⟩, prog_7_method_14_code, 3, (some .boolean))
theorem o_md_before : zO g_md_before 2 := by unfold zO; decide +kernel
def g_md_mayFollow : zG := (⟨"RoundPlansModel", "mayFollow", "(III)Z"⟩, prog_7_method_15_code, 6, (some .boolean))
theorem o_md_mayFollow : zO g_md_mayFollow 3 := by unfold zO; decide +kernel
def g_md_drive : zG := (⟨"RoundPlansModel", "drive", "(II)I"⟩, prog_7_method_16_code, 8, (some .int))
theorem o_md_drive : zO g_md_drive 2 := by unfold zO; decide +kernel
def g_md_setOf : zG := (⟨"RoundPlansModel", "setOf", "(I)I"⟩, prog_7_method_17_code, 4, (some .int))
theorem o_md_setOf : zO g_md_setOf 1 := by unfold zO; decide +kernel
def g_md_rowOf : zG := (⟨"RoundPlansModel", "rowOf", "(I)I"⟩, prog_7_method_18_code, 4, (some .int))
theorem o_md_rowOf : zO g_md_rowOf 1 := by unfold zO; decide +kernel
def g_md_driveAll : zG := (⟨"RoundPlansModel", "driveAll", "(I)V"⟩, prog_7_method_19_code, 4, none)
theorem o_md_driveAll : zO g_md_driveAll 1 := by unfold zO; decide +kernel
def g_md_keep : zG := (⟨"RoundPlansModel", "keep", "(II)V"⟩, prog_7_method_20_code, 5, none)
theorem o_md_keep : zO g_md_keep 2 := by unfold zO; decide +kernel
def g_md_digit : zG := (⟨"RoundPlansModel", "digit", "(II)I"⟩, prog_7_method_21_code, 2, (some .int))
theorem o_md_digit : zO g_md_digit 2 := by unfold zO; decide +kernel
def g_md_setIn : zG := (⟨"RoundPlansModel", "setIn", "(II)I"⟩, prog_7_method_22_code, 5, (some .int))
theorem o_md_setIn : zO g_md_setIn 2 := by unfold zO; decide +kernel
def g_md_costOf : zG := (⟨"RoundPlansModel", "costOf", "(II)J"⟩, prog_7_method_23_code, 7, (some .long))
theorem o_md_costOf : zO g_md_costOf 2 := by unfold zO; decide +kernel
def g_md_bestPlan : zG := (⟨"RoundPlansModel", "bestPlan", "(I)I"⟩, prog_7_method_24_code, 8, (some .int))
theorem o_md_bestPlan : zO g_md_bestPlan 1 := by unfold zO; decide +kernel
def g_md_run : zG := (⟨"RoundPlansModel", "run", "()I"⟩, prog_7_method_25_code, 4, (some .int))
theorem o_md_run : zO g_md_run 0 := by unfold zO; decide +kernel
def g_md_tellRound : zG := (⟨"RoundPlansModel", "tellRound", "(II)V"⟩, prog_7_method_26_code, 4, none)
theorem o_md_tellRound : zO g_md_tellRound 2 := by unfold zO; decide +kernel
def g_md_cost : zG := (⟨"RoundPlansModel", "cost", "()J"⟩, prog_7_method_27_code, 1, (some .long))
theorem o_md_cost : zO g_md_cost 0 := by unfold zO; decide +kernel
def g_md_vehicleOf : zG := (⟨"RoundPlansModel", "vehicleOf", "(I)I"⟩, prog_7_method_28_code, 2, (some .int))
theorem o_md_vehicleOf : zO g_md_vehicleOf 1 := by unfold zO; decide +kernel
def g_md_at : zG := (⟨"RoundPlansModel", "at", "(II)I"⟩, prog_7_method_29_code, 3, (some .int))
theorem o_md_at : zO g_md_at 2 := by unfold zO; decide +kernel
def g_md_begun : zG := (⟨"RoundPlansModel", "begun", "(I)I"⟩, prog_7_method_30_code, 2, (some .int))
theorem o_md_begun : zO g_md_begun 1 := by unfold zO; decide +kernel
def g_md_back : zG := (⟨"RoundPlansModel", "back", "(I)I"⟩, prog_7_method_31_code, 2, (some .int))
theorem o_md_back : zO g_md_back 1 := by unfold zO; decide +kernel
def g_md_saved : zG := (⟨"RoundPlansModel", "saved", "(I)J"⟩, prog_7_method_32_code, 2, (some .long))
theorem o_md_saved : zO g_md_saved 1 := by unfold zO; decide +kernel
def g_fd_init : zG := (⟨"RoundPlans$Found", "<init>", "()V"⟩, prog_2_method_1_code, 1, none)
theorem o_fd_init : zO g_fd_init 0 := by unfold zO; decide +kernel
def g_fd_hasStop : zG := (⟨"RoundPlans$Found", "hasStop", "(I)Z"⟩, prog_2_method_2_code, 2, (some .boolean))
theorem o_fd_hasStop : zO g_fd_hasStop 1 := by unfold zO; decide +kernel
def g_fd_hasVehicle : zG := (⟨"RoundPlans$Found", "hasVehicle", "(I)Z"⟩, prog_2_method_3_code, 2, (some .boolean))
theorem o_fd_hasVehicle : zO g_fd_hasVehicle 1 := by unfold zO; decide +kernel
def g_fd_take : zG := (⟨"RoundPlans$Found", "take", "(LRoundPlans$Told;J)V"⟩, prog_2_method_4_code, 5, none)
theorem o_fd_take : zO g_fd_take 2 := by unfold zO; decide +kernel
def g_fd_note : zG := (⟨"RoundPlans$Found", "note", "(III)V"⟩, prog_2_method_5_code, 5, none)
theorem o_fd_note : zO g_fd_note 3 := by unfold zO; decide +kernel
def g_pl_init : zG := (⟨"RoundPlans$Plans", "<init>", "(LRoundPlans$Told;LRoundPlans$Rounds;)V"⟩, prog_3_method_1_code, 3, none)
theorem o_pl_init : zO g_pl_init 2 := by unfold zO; decide +kernel
def g_pl_findPrices : zG := (⟨"RoundPlans$Plans", "findPrices", "()V"⟩, prog_3_method_2_code, 5, none)
theorem o_pl_findPrices : zO g_pl_findPrices 0 := by unfold zO; decide +kernel
def g_pl_findPrice : zG := (⟨"RoundPlans$Plans", "findPrice", "(IIJ)J"⟩, prog_3_method_3_code, 8, (some .long))
theorem o_pl_findPrice : zO g_pl_findPrice 3 := by unfold zO; decide +kernel
def g_pl_penaltiesOf : zG := (⟨"RoundPlans$Plans", "penaltiesOf", "(I)J"⟩, prog_3_method_4_code, 5, (some .long))
theorem o_pl_penaltiesOf : zO g_pl_penaltiesOf 1 := by unfold zO; decide +kernel
def g_pl_codeOfOnes : zG := (⟨"RoundPlans$Plans", "codeOfOnes", "(I)J"⟩, prog_3_method_5_code, 5, (some .long))
theorem o_pl_codeOfOnes : zO g_pl_codeOfOnes 1 := by unfold zO; decide +kernel
def g_pl_cheapest : zG := (⟨"RoundPlans$Plans", "cheapest", "(I)J"⟩, prog_3_method_6_code, 4, (some .long))
theorem o_pl_cheapest : zO g_pl_cheapest 1 := by unfold zO; decide +kernel
def g_pl_addRounds : zG := (⟨"RoundPlans$Plans", "addRounds", "(II)V"⟩, prog_3_method_7_code, 4, none)
theorem o_pl_addRounds : zO g_pl_addRounds 2 := by unfold zO; decide +kernel
def g_pl_leastWith : zG := (⟨"RoundPlans$Plans", "leastWith", "(II)J"⟩, prog_3_method_8_code, 6, (some .long))
theorem o_pl_leastWith : zO g_pl_leastWith 2 := by unfold zO; decide +kernel
def g_rd_init : zG := (⟨"RoundPlans$Rounds", "<init>", "(LRoundPlans$Told;)V"⟩, prog_4_method_1_code, 2, none)
theorem o_rd_init : zO g_rd_init 1 := by unfold zO; decide +kernel
def g_rd_firstBack : zG := (⟨"RoundPlans$Rounds", "firstBack", "(II)I"⟩, prog_4_method_2_code, 3, (some .int))
theorem o_rd_firstBack : zO g_rd_firstBack 2 := by unfold zO; decide +kernel
def g_rd_findBacks : zG := (⟨"RoundPlans$Rounds", "findBacks", "()V"⟩, prog_4_method_3_code, 4, none)
theorem o_rd_findBacks : zO g_rd_findBacks 0 := by unfold zO; decide +kernel
def g_rd_mayHave : zG := (⟨"RoundPlans$Rounds", "mayHave", "(II)Z"⟩, prog_4_method_4_code, 6, (some .boolean))
theorem o_rd_mayHave : zO g_rd_mayHave 2 := by unfold zO; decide +kernel
def g_rd_findBack : zG := (⟨"RoundPlans$Rounds", "findBack", "(II)I"⟩, prog_4_method_5_code, 6, (some .int))
theorem o_rd_findBack : zO g_rd_findBack 2 := by unfold zO; decide +kernel
def g_rd_findReady : zG := (⟨"RoundPlans$Rounds", "findReady", "(III)I"⟩, prog_4_method_6_code, 8, (some .int))
theorem o_rd_findReady : zO g_rd_findReady 3 := by unfold zO; decide +kernel
def g_rd_drive : zG := (⟨"RoundPlans$Rounds", "drive", "(IILRoundPlans$Found;)V"⟩, prog_4_method_7_code, 9, none)
theorem o_rd_drive : zO g_rd_drive 3 := by unfold zO; decide +kernel
def g_rd_firstInTime : zG := (⟨"RoundPlans$Rounds", "firstInTime", "(III)I"⟩, prog_4_method_8_code, 5, (some .int))
theorem o_rd_firstInTime : zO g_rd_firstInTime 3 := by unfold zO; decide +kernel
def g_rd_findLatest : zG := (⟨"RoundPlans$Rounds", "findLatest", "(II)V"⟩, prog_4_method_9_code, 5, none)
theorem o_rd_findLatest : zO g_rd_findLatest 2 := by unfold zO; decide +kernel
def g_rd_findLatestAt : zG := (⟨"RoundPlans$Rounds", "findLatestAt", "(III)I"⟩, prog_4_method_10_code, 8, (some .int))
theorem o_rd_findLatestAt : zO g_rd_findLatestAt 3 := by unfold zO; decide +kernel
def g_td_init : zG := (⟨"RoundPlans$Told", "<init>", "()V"⟩, prog_5_method_1_code, 1, none)
theorem o_td_init : zO g_td_init 0 := by unfold zO; decide +kernel
def g_td_hasStop : zG := (⟨"RoundPlans$Told", "hasStop", "(I)Z"⟩, prog_5_method_2_code, 2, (some .boolean))
theorem o_td_hasStop : zO g_td_hasStop 1 := by unfold zO; decide +kernel
def g_td_hasVehicle : zG := (⟨"RoundPlans$Told", "hasVehicle", "(I)Z"⟩, prog_5_method_3_code, 2, (some .boolean))
theorem o_td_hasVehicle : zO g_td_hasVehicle 1 := by unfold zO; decide +kernel
def g_td_areTwoStops : zG := (⟨"RoundPlans$Told", "areTwoStops", "(II)Z"⟩, prog_5_method_4_code, 3, (some .boolean))
theorem o_td_areTwoStops : zO g_td_areTwoStops 2 := by unfold zO; decide +kernel
def g_td_addStop : zG := (⟨"RoundPlans$Told", "addStop", "(I)I"⟩, prog_5_method_5_code, 2, (some .int))
theorem o_td_addStop : zO g_td_addStop 1 := by unfold zO; decide +kernel
def g_td_addVehicle : zG := (⟨"RoundPlans$Told", "addVehicle", "(IIII)I"⟩, prog_5_method_6_code, 5, (some .int))
theorem o_td_addVehicle : zO g_td_addVehicle 4 := by unfold zO; decide +kernel
def g_td_setApart : zG := (⟨"RoundPlans$Told", "setApart", "(IIZ)V"⟩, prog_5_method_7_code, 4, none)
theorem o_td_setApart : zO g_td_setApart 3 := by unfold zO; decide +kernel
def g_td_setBefore : zG := (⟨"RoundPlans$Told", "setBefore", "(II)V"⟩, prog_5_method_8_code, 5, none)
theorem o_td_setBefore : zO g_td_setBefore 2 := by unfold zO; decide +kernel
def g_td_seconds : zG := (⟨"RoundPlans$Told", "seconds", "(II)I"⟩, prog_5_method_9_code, 3, (some .int))
theorem o_td_seconds : zO g_td_seconds 2 := by unfold zO; decide +kernel
def g_ig_bitCount : zG := (⟨"java/lang/Integer", "bitCount", "(I)I"⟩, prog_8_method_49_code, 1, (some .int))
theorem o_ig_bitCount : zO g_ig_bitCount 1 := by unfold zO; decide +kernel
def g_ar_fill : zG := (⟨"java/util/Arrays", "fill", "([II)V"⟩, prog_11_method_103_code, 4, none)
theorem o_ar_fill : zO g_ar_fill 2 := by unfold zO; decide +kernel
end
section
/-! WORDS, by their places in the tables -/
theorem wd_0 : (Jvm.Cond.initialized "RoundPlansLaw") ∈ zT := zT_of 0 (by decide +kernel) (by decide +kernel)
theorem wd_1 : (Jvm.Cond.initialized "RoundPlans") ∈ zT := zT_of 1 (by decide +kernel) (by decide +kernel)
theorem wd_2 : (Jvm.Cond.initialized "RoundPlans$Told") ∈ zT := zT_of 2 (by decide +kernel) (by decide +kernel)
theorem wd_3 : (Jvm.Cond.initialized "java/util/Arrays") ∈ zT := zT_of 3 (by decide +kernel) (by decide +kernel)
theorem wd_4 : (Jvm.Cond.initialized "RoundPlans$Rounds") ∈ zT := zT_of 4 (by decide +kernel) (by decide +kernel)
theorem wd_5 : (Jvm.Cond.initialized "RoundPlans$Plans") ∈ zT := zT_of 5 (by decide +kernel) (by decide +kernel)
theorem wd_6 : (Jvm.Cond.initialized "RoundPlans$Found") ∈ zT := zT_of 6 (by decide +kernel) (by decide +kernel)
theorem wd_7 : (Jvm.Cond.initialized "RoundPlansModel") ∈ zT := zT_of 7 (by decide +kernel) (by decide +kernel)
theorem wd_8 : (Jvm.Cond.initialized "java/lang/Math") ∈ zT := zT_of 8 (by decide +kernel) (by decide +kernel)
theorem wd_9 : (Jvm.Cond.initialized "java/lang/System") ∈ zT := zT_of 9 (by decide +kernel) (by decide +kernel)
theorem wd_10 : (Jvm.Cond.initialized "java/lang/Integer") ∈ zT := zT_of 10 (by decide +kernel) (by decide +kernel)
theorem wd_11 : (Jvm.Cond.classLink "RoundPlansLaw" (7 : Nat) "RoundPlans") ∈ zT := zT_of 11 (by decide +kernel) (by decide +kernel)
theorem wd_12 : (Jvm.Cond.instantiable "RoundPlans" (4 : Nat)) ∈ zT := zT_of 12 (by decide +kernel) (by decide +kernel)
theorem wd_13 : (Jvm.Cond.methodLink "RoundPlansLaw" (9 : Nat) ({ cls := "RoundPlans", name := "<init>", desc := "()V" } : Jvm.MethodName)) ∈ zT := zT_of 13 (by decide +kernel) (by decide +kernel)
theorem wd_14 : (Jvm.Cond.instanceMethod ({ cls := "RoundPlans", name := "<init>", desc := "()V" } : Jvm.MethodName)) ∈ zT := zT_of 14 (by decide +kernel) (by decide +kernel)
set_option maxRecDepth 100000 in
theorem wd_15 : zc g_rp_init ∈ zT := zT_of 15 rfl rfl
theorem wd_16 : (Jvm.Cond.methodLink "RoundPlans" (3 : Nat) ({ cls := "java/lang/Object", name := "<init>", desc := "()V" } : Jvm.MethodName)) ∈ zT := zT_of 16 (by decide +kernel) (by decide +kernel)
theorem wd_17 : (Jvm.Cond.instanceMethod ({ cls := "java/lang/Object", name := "<init>", desc := "()V" } : Jvm.MethodName)) ∈ zT := zT_of 17 (by decide +kernel) (by decide +kernel)
set_option maxRecDepth 100000 in
theorem wd_18 : (Cond.code ({ cls := "java/lang/Object", name := "<init>", desc := "()V" } : Jvm.MethodName) object_method_1_code (1 : Nat) (Option.none : Option Jvm.ClassFile.FieldType)) ∈ zT := zT_of 18 rfl rfl
theorem wd_19 : (Jvm.Cond.classLink "RoundPlans" (9 : Nat) "RoundPlans$Told") ∈ zT := zT_of 19 (by decide +kernel) (by decide +kernel)
theorem wd_20 : (Jvm.Cond.instantiable "RoundPlans$Told" (17 : Nat)) ∈ zT := zT_of 20 (by decide +kernel) (by decide +kernel)
theorem wd_21 : (Jvm.Cond.methodLink "RoundPlans" (11 : Nat) ({ cls := "RoundPlans$Told", name := "<init>", desc := "()V" } : Jvm.MethodName)) ∈ zT := zT_of 21 (by decide +kernel) (by decide +kernel)
theorem wd_22 : (Jvm.Cond.instanceMethod ({ cls := "RoundPlans$Told", name := "<init>", desc := "()V" } : Jvm.MethodName)) ∈ zT := zT_of 22 (by decide +kernel) (by decide +kernel)
set_option maxRecDepth 100000 in
theorem wd_23 : zc g_td_init ∈ zT := zT_of 23 rfl rfl
theorem wd_24 : (Jvm.Cond.methodLink "RoundPlans$Told" (3 : Nat) ({ cls := "java/lang/Object", name := "<init>", desc := "()V" } : Jvm.MethodName)) ∈ zT := zT_of 24 (by decide +kernel) (by decide +kernel)
theorem wd_25 : (Jvm.Cond.constant "RoundPlans$Told" (58 : Nat) (86399 : Int32)) ∈ zT := zT_of 25 (by decide +kernel) (by decide +kernel)
theorem wd_26 : (Jvm.Cond.methodLink "RoundPlans$Told" (59 : Nat) ({ cls := "java/util/Arrays", name := "fill", desc := "([II)V" } : Jvm.MethodName)) ∈ zT := zT_of 26 (by decide +kernel) (by decide +kernel)
theorem wd_27 : (Jvm.Cond.static ({ cls := "java/util/Arrays", name := "fill", desc := "([II)V" } : Jvm.MethodName)) ∈ zT := zT_of 27 (by decide +kernel) (by decide +kernel)
set_option maxRecDepth 100000 in
theorem wd_28 : zc g_ar_fill ∈ zT := zT_of 28 rfl rfl
theorem wd_29 : (Jvm.Cond.fieldLink "RoundPlans" (41 : Nat) "RoundPlans$Told" "stops" "I") ∈ zT := zT_of 29 (by decide +kernel) (by decide +kernel)
theorem wd_30 : (Jvm.Cond.fieldLink "RoundPlans$Told" (65 : Nat) "RoundPlans$Told" "stops" "I") ∈ zT := zT_of 30 (by decide +kernel) (by decide +kernel)
theorem wd_31 : (Jvm.Cond.fieldLink "RoundPlans$Plans" (29 : Nat) "RoundPlans$Told" "stops" "I") ∈ zT := zT_of 31 (by decide +kernel) (by decide +kernel)
theorem wd_32 : (Jvm.Cond.fieldLink "RoundPlans$Rounds" (31 : Nat) "RoundPlans$Told" "stops" "I") ∈ zT := zT_of 32 (by decide +kernel) (by decide +kernel)
theorem wd_33 : (Jvm.Cond.fieldLink "RoundPlans$Found" (44 : Nat) "RoundPlans$Told" "stops" "I") ∈ zT := zT_of 33 (by decide +kernel) (by decide +kernel)
theorem wd_34 : (Jvm.Cond.fieldLink "RoundPlans$Plans" (44 : Nat) "RoundPlans$Told" "vehicles" "I") ∈ zT := zT_of 34 (by decide +kernel) (by decide +kernel)
theorem wd_35 : (Jvm.Cond.fieldLink "RoundPlans$Told" (69 : Nat) "RoundPlans$Told" "vehicles" "I") ∈ zT := zT_of 35 (by decide +kernel) (by decide +kernel)
theorem wd_36 : (Jvm.Cond.fieldLink "RoundPlans$Rounds" (25 : Nat) "RoundPlans$Told" "vehicles" "I") ∈ zT := zT_of 36 (by decide +kernel) (by decide +kernel)
theorem wd_37 : (Jvm.Cond.fieldLink "RoundPlans$Found" (49 : Nat) "RoundPlans$Told" "vehicles" "I") ∈ zT := zT_of 37 (by decide +kernel) (by decide +kernel)
theorem wd_38 : (Jvm.Cond.fieldLink "RoundPlans" (77 : Nat) "RoundPlans$Told" "vehicles" "I") ∈ zT := zT_of 38 (by decide +kernel) (by decide +kernel)
theorem wd_39 : (Jvm.Cond.fieldLink "RoundPlans$Told" (9 : Nat) "RoundPlans$Told" "kilograms" "[I") ∈ zT := zT_of 39 (by decide +kernel) (by decide +kernel)
theorem wd_40 : (Jvm.Cond.fieldLink "RoundPlans$Rounds" (52 : Nat) "RoundPlans$Told" "kilograms" "[I") ∈ zT := zT_of 40 (by decide +kernel) (by decide +kernel)
theorem wd_41 : (Jvm.Cond.fieldLink "RoundPlans$Told" (15 : Nat) "RoundPlans$Told" "first" "[I") ∈ zT := zT_of 41 (by decide +kernel) (by decide +kernel)
theorem wd_42 : (Jvm.Cond.fieldLink "RoundPlans" (61 : Nat) "RoundPlans$Told" "first" "[I") ∈ zT := zT_of 42 (by decide +kernel) (by decide +kernel)
theorem wd_43 : (Jvm.Cond.fieldLink "RoundPlans$Rounds" (85 : Nat) "RoundPlans$Told" "first" "[I") ∈ zT := zT_of 43 (by decide +kernel) (by decide +kernel)
theorem wd_44 : (Jvm.Cond.fieldLink "RoundPlans$Told" (18 : Nat) "RoundPlans$Told" "last" "[I") ∈ zT := zT_of 44 (by decide +kernel) (by decide +kernel)
theorem wd_45 : (Jvm.Cond.fieldLink "RoundPlans" (65 : Nat) "RoundPlans$Told" "last" "[I") ∈ zT := zT_of 45 (by decide +kernel) (by decide +kernel)
theorem wd_46 : (Jvm.Cond.fieldLink "RoundPlans$Rounds" (82 : Nat) "RoundPlans$Told" "last" "[I") ∈ zT := zT_of 46 (by decide +kernel) (by decide +kernel)
theorem wd_47 : (Jvm.Cond.fieldLink "RoundPlans$Told" (21 : Nat) "RoundPlans$Told" "service" "[I") ∈ zT := zT_of 47 (by decide +kernel) (by decide +kernel)
theorem wd_48 : (Jvm.Cond.fieldLink "RoundPlans" (68 : Nat) "RoundPlans$Told" "service" "[I") ∈ zT := zT_of 48 (by decide +kernel) (by decide +kernel)
theorem wd_49 : (Jvm.Cond.fieldLink "RoundPlans$Rounds" (91 : Nat) "RoundPlans$Told" "service" "[I") ∈ zT := zT_of 49 (by decide +kernel) (by decide +kernel)
theorem wd_50 : (Jvm.Cond.fieldLink "RoundPlans$Told" (24 : Nat) "RoundPlans$Told" "penalties" "[J") ∈ zT := zT_of 50 (by decide +kernel) (by decide +kernel)
theorem wd_51 : (Jvm.Cond.fieldLink "RoundPlans" (73 : Nat) "RoundPlans$Told" "penalties" "[J") ∈ zT := zT_of 51 (by decide +kernel) (by decide +kernel)
theorem wd_52 : (Jvm.Cond.fieldLink "RoundPlans$Plans" (71 : Nat) "RoundPlans$Told" "penalties" "[J") ∈ zT := zT_of 52 (by decide +kernel) (by decide +kernel)
theorem wd_53 : (Jvm.Cond.fieldLink "RoundPlans$Told" (28 : Nat) "RoundPlans$Told" "fixedTo" "[I") ∈ zT := zT_of 53 (by decide +kernel) (by decide +kernel)
theorem wd_54 : (Jvm.Cond.fieldLink "RoundPlans$Rounds" (46 : Nat) "RoundPlans$Told" "fixedTo" "[I") ∈ zT := zT_of 54 (by decide +kernel) (by decide +kernel)
theorem wd_55 : (Jvm.Cond.fieldLink "RoundPlans" (92 : Nat) "RoundPlans$Told" "fixedTo" "[I") ∈ zT := zT_of 55 (by decide +kernel) (by decide +kernel)
theorem wd_56 : (Jvm.Cond.fieldLink "RoundPlans$Told" (31 : Nat) "RoundPlans$Told" "apartFrom" "[I") ∈ zT := zT_of 56 (by decide +kernel) (by decide +kernel)
theorem wd_57 : (Jvm.Cond.fieldLink "RoundPlans$Rounds" (49 : Nat) "RoundPlans$Told" "apartFrom" "[I") ∈ zT := zT_of 57 (by decide +kernel) (by decide +kernel)
theorem wd_58 : (Jvm.Cond.fieldLink "RoundPlans$Told" (34 : Nat) "RoundPlans$Told" "ahead" "[I") ∈ zT := zT_of 58 (by decide +kernel) (by decide +kernel)
theorem wd_59 : (Jvm.Cond.fieldLink "RoundPlans$Rounds" (114 : Nat) "RoundPlans$Told" "ahead" "[I") ∈ zT := zT_of 59 (by decide +kernel) (by decide +kernel)
theorem wd_60 : (Jvm.Cond.fieldLink "RoundPlans$Told" (37 : Nat) "RoundPlans$Told" "behind" "[I") ∈ zT := zT_of 60 (by decide +kernel) (by decide +kernel)
theorem wd_61 : (Jvm.Cond.fieldLink "RoundPlans$Rounds" (76 : Nat) "RoundPlans$Told" "behind" "[I") ∈ zT := zT_of 61 (by decide +kernel) (by decide +kernel)
theorem wd_62 : (Jvm.Cond.fieldLink "RoundPlans" (102 : Nat) "RoundPlans$Told" "behind" "[I") ∈ zT := zT_of 62 (by decide +kernel) (by decide +kernel)
theorem wd_63 : (Jvm.Cond.fieldLink "RoundPlans$Told" (40 : Nat) "RoundPlans$Told" "reached" "[I") ∈ zT := zT_of 63 (by decide +kernel) (by decide +kernel)
theorem wd_64 : (Jvm.Cond.fieldLink "RoundPlans" (108 : Nat) "RoundPlans$Told" "reached" "[I") ∈ zT := zT_of 64 (by decide +kernel) (by decide +kernel)
theorem wd_65 : (Jvm.Cond.fieldLink "RoundPlans$Told" (43 : Nat) "RoundPlans$Told" "most" "[I") ∈ zT := zT_of 65 (by decide +kernel) (by decide +kernel)
theorem wd_66 : (Jvm.Cond.fieldLink "RoundPlans$Rounds" (55 : Nat) "RoundPlans$Told" "most" "[I") ∈ zT := zT_of 66 (by decide +kernel) (by decide +kernel)
theorem wd_67 : (Jvm.Cond.fieldLink "RoundPlans$Told" (46 : Nat) "RoundPlans$Told" "leaving" "[I") ∈ zT := zT_of 67 (by decide +kernel) (by decide +kernel)
theorem wd_68 : (Jvm.Cond.fieldLink "RoundPlans$Plans" (60 : Nat) "RoundPlans$Told" "leaving" "[I") ∈ zT := zT_of 68 (by decide +kernel) (by decide +kernel)
theorem wd_69 : (Jvm.Cond.fieldLink "RoundPlans$Rounds" (79 : Nat) "RoundPlans$Told" "leaving" "[I") ∈ zT := zT_of 69 (by decide +kernel) (by decide +kernel)
theorem wd_70 : (Jvm.Cond.fieldLink "RoundPlans$Told" (49 : Nat) "RoundPlans$Told" "due" "[I") ∈ zT := zT_of 70 (by decide +kernel) (by decide +kernel)
theorem wd_71 : (Jvm.Cond.fieldLink "RoundPlans$Rounds" (70 : Nat) "RoundPlans$Told" "due" "[I") ∈ zT := zT_of 71 (by decide +kernel) (by decide +kernel)
theorem wd_72 : (Jvm.Cond.fieldLink "RoundPlans$Told" (52 : Nat) "RoundPlans$Told" "rate" "[I") ∈ zT := zT_of 72 (by decide +kernel) (by decide +kernel)
theorem wd_73 : (Jvm.Cond.fieldLink "RoundPlans$Plans" (64 : Nat) "RoundPlans$Told" "rate" "[I") ∈ zT := zT_of 73 (by decide +kernel) (by decide +kernel)
theorem wd_74 : (Jvm.Cond.fieldLink "RoundPlans$Told" (55 : Nat) "RoundPlans$Told" "ways" "[I") ∈ zT := zT_of 74 (by decide +kernel) (by decide +kernel)
theorem wd_75 : (Jvm.Cond.fieldLink "RoundPlans" (86 : Nat) "RoundPlans$Told" "ways" "[I") ∈ zT := zT_of 75 (by decide +kernel) (by decide +kernel)
theorem wd_111 : (Jvm.Cond.arrayClass Jvm.ClassFile.FieldType.int) ∈ zT := zT_of 111 (by decide +kernel) (by decide +kernel)
theorem wd_112 : (Jvm.Cond.arrayClass Jvm.ClassFile.FieldType.long) ∈ zT := zT_of 112 (by decide +kernel) (by decide +kernel)
theorem wd_113 : (Jvm.Cond.classLink "RoundPlans" (16 : Nat) "RoundPlans$Rounds") ∈ zT := zT_of 113 (by decide +kernel) (by decide +kernel)
theorem wd_114 : (Jvm.Cond.instantiable "RoundPlans$Rounds" (4 : Nat)) ∈ zT := zT_of 114 (by decide +kernel) (by decide +kernel)
theorem wd_115 : (Jvm.Cond.methodLink "RoundPlans" (18 : Nat) ({ cls := "RoundPlans$Rounds", name := "<init>", desc := "(LRoundPlans$Told;)V" } : Jvm.MethodName)) ∈ zT := zT_of 115 (by decide +kernel) (by decide +kernel)
theorem wd_116 : (Jvm.Cond.instanceMethod ({ cls := "RoundPlans$Rounds", name := "<init>", desc := "(LRoundPlans$Told;)V" } : Jvm.MethodName)) ∈ zT := zT_of 116 (by decide +kernel) (by decide +kernel)
set_option maxRecDepth 100000 in
theorem wd_117 : zc g_rd_init ∈ zT := zT_of 117 rfl rfl
theorem wd_118 : (Jvm.Cond.methodLink "RoundPlans$Rounds" (3 : Nat) ({ cls := "java/lang/Object", name := "<init>", desc := "()V" } : Jvm.MethodName)) ∈ zT := zT_of 118 (by decide +kernel) (by decide +kernel)
theorem wd_119 : (Jvm.Cond.fieldLink "RoundPlans$Rounds" (9 : Nat) "RoundPlans$Rounds" "told" "LRoundPlans$Told;") ∈ zT := zT_of 119 (by decide +kernel) (by decide +kernel)
theorem wd_120 : (Jvm.Cond.fieldLink "RoundPlans$Rounds" (15 : Nat) "RoundPlans$Rounds" "backs" "[I") ∈ zT := zT_of 120 (by decide +kernel) (by decide +kernel)
theorem wd_121 : (Jvm.Cond.fieldLink "RoundPlans$Rounds" (19 : Nat) "RoundPlans$Rounds" "ready" "[I") ∈ zT := zT_of 121 (by decide +kernel) (by decide +kernel)
theorem wd_122 : (Jvm.Cond.fieldLink "RoundPlans$Rounds" (22 : Nat) "RoundPlans$Rounds" "latest" "[I") ∈ zT := zT_of 122 (by decide +kernel) (by decide +kernel)
theorem wd_132 : (Jvm.Cond.classLink "RoundPlans" (25 : Nat) "RoundPlans$Plans") ∈ zT := zT_of 132 (by decide +kernel) (by decide +kernel)
theorem wd_133 : (Jvm.Cond.instantiable "RoundPlans$Plans" (5 : Nat)) ∈ zT := zT_of 133 (by decide +kernel) (by decide +kernel)
theorem wd_134 : (Jvm.Cond.methodLink "RoundPlans" (27 : Nat) ({ cls := "RoundPlans$Plans", name := "<init>", desc := "(LRoundPlans$Told;LRoundPlans$Rounds;)V" } : Jvm.MethodName)) ∈ zT := zT_of 134 (by decide +kernel) (by decide +kernel)
theorem wd_135 : (Jvm.Cond.instanceMethod ({ cls := "RoundPlans$Plans", name := "<init>", desc := "(LRoundPlans$Told;LRoundPlans$Rounds;)V" } : Jvm.MethodName)) ∈ zT := zT_of 135 (by decide +kernel) (by decide +kernel)
set_option maxRecDepth 100000 in
theorem wd_136 : zc g_pl_init ∈ zT := zT_of 136 rfl rfl
theorem wd_137 : (Jvm.Cond.methodLink "RoundPlans$Plans" (3 : Nat) ({ cls := "java/lang/Object", name := "<init>", desc := "()V" } : Jvm.MethodName)) ∈ zT := zT_of 137 (by decide +kernel) (by decide +kernel)
theorem wd_138 : (Jvm.Cond.fieldLink "RoundPlans$Plans" (9 : Nat) "RoundPlans$Plans" "told" "LRoundPlans$Told;") ∈ zT := zT_of 138 (by decide +kernel) (by decide +kernel)
theorem wd_139 : (Jvm.Cond.fieldLink "RoundPlans$Plans" (15 : Nat) "RoundPlans$Plans" "rounds" "LRoundPlans$Rounds;") ∈ zT := zT_of 139 (by decide +kernel) (by decide +kernel)
theorem wd_140 : (Jvm.Cond.fieldLink "RoundPlans$Plans" (19 : Nat) "RoundPlans$Plans" "prices" "[J") ∈ zT := zT_of 140 (by decide +kernel) (by decide +kernel)
theorem wd_141 : (Jvm.Cond.fieldLink "RoundPlans$Plans" (23 : Nat) "RoundPlans$Plans" "skips" "[J") ∈ zT := zT_of 141 (by decide +kernel) (by decide +kernel)
theorem wd_142 : (Jvm.Cond.fieldLink "RoundPlans$Plans" (26 : Nat) "RoundPlans$Plans" "least" "[J") ∈ zT := zT_of 142 (by decide +kernel) (by decide +kernel)
theorem wd_154 : (Jvm.Cond.classLink "RoundPlans" (34 : Nat) "RoundPlans$Found") ∈ zT := zT_of 154 (by decide +kernel) (by decide +kernel)
theorem wd_155 : (Jvm.Cond.instantiable "RoundPlans$Found" (9 : Nat)) ∈ zT := zT_of 155 (by decide +kernel) (by decide +kernel)
theorem wd_156 : (Jvm.Cond.methodLink "RoundPlans" (36 : Nat) ({ cls := "RoundPlans$Found", name := "<init>", desc := "()V" } : Jvm.MethodName)) ∈ zT := zT_of 156 (by decide +kernel) (by decide +kernel)
theorem wd_157 : (Jvm.Cond.instanceMethod ({ cls := "RoundPlans$Found", name := "<init>", desc := "()V" } : Jvm.MethodName)) ∈ zT := zT_of 157 (by decide +kernel) (by decide +kernel)
set_option maxRecDepth 100000 in
theorem wd_158 : zc g_fd_init ∈ zT := zT_of 158 rfl rfl
theorem wd_159 : (Jvm.Cond.methodLink "RoundPlans$Found" (3 : Nat) ({ cls := "java/lang/Object", name := "<init>", desc := "()V" } : Jvm.MethodName)) ∈ zT := zT_of 159 (by decide +kernel) (by decide +kernel)
theorem wd_160 : (Jvm.Cond.constantLong "RoundPlans$Found" (9 : Nat) (-1 : Int64)) ∈ zT := zT_of 160 (by decide +kernel) (by decide +kernel)
theorem wd_161 : (Jvm.Cond.fieldLink "RoundPlans$Found" (37 : Nat) "RoundPlans$Found" "stopCount" "I") ∈ zT := zT_of 161 (by decide +kernel) (by decide +kernel)
theorem wd_162 : (Jvm.Cond.fieldLink "RoundPlans$Found" (41 : Nat) "RoundPlans$Found" "vehicleCount" "I") ∈ zT := zT_of 162 (by decide +kernel) (by decide +kernel)
theorem wd_163 : (Jvm.Cond.fieldLink "RoundPlans$Found" (11 : Nat) "RoundPlans$Found" "cents" "J") ∈ zT := zT_of 163 (by decide +kernel) (by decide +kernel)
theorem wd_164 : (Jvm.Cond.fieldLink "RoundPlans" (136 : Nat) "RoundPlans$Found" "cents" "J") ∈ zT := zT_of 164 (by decide +kernel) (by decide +kernel)
theorem wd_165 : (Jvm.Cond.fieldLink "RoundPlans$Found" (17 : Nat) "RoundPlans$Found" "vehicles" "[I") ∈ zT := zT_of 165 (by decide +kernel) (by decide +kernel)
theorem wd_166 : (Jvm.Cond.fieldLink "RoundPlans" (154 : Nat) "RoundPlans$Found" "vehicles" "[I") ∈ zT := zT_of 166 (by decide +kernel) (by decide +kernel)
theorem wd_167 : (Jvm.Cond.fieldLink "RoundPlans$Found" (21 : Nat) "RoundPlans$Found" "begins" "[I") ∈ zT := zT_of 167 (by decide +kernel) (by decide +kernel)
theorem wd_168 : (Jvm.Cond.fieldLink "RoundPlans" (163 : Nat) "RoundPlans$Found" "begins" "[I") ∈ zT := zT_of 168 (by decide +kernel) (by decide +kernel)
theorem wd_169 : (Jvm.Cond.fieldLink "RoundPlans$Found" (24 : Nat) "RoundPlans$Found" "order" "[I") ∈ zT := zT_of 169 (by decide +kernel) (by decide +kernel)
theorem wd_170 : (Jvm.Cond.fieldLink "RoundPlans" (160 : Nat) "RoundPlans$Found" "order" "[I") ∈ zT := zT_of 170 (by decide +kernel) (by decide +kernel)
theorem wd_171 : (Jvm.Cond.fieldLink "RoundPlans$Found" (27 : Nat) "RoundPlans$Found" "lengths" "[I") ∈ zT := zT_of 171 (by decide +kernel) (by decide +kernel)
theorem wd_172 : (Jvm.Cond.fieldLink "RoundPlans" (157 : Nat) "RoundPlans$Found" "lengths" "[I") ∈ zT := zT_of 172 (by decide +kernel) (by decide +kernel)
theorem wd_173 : (Jvm.Cond.fieldLink "RoundPlans$Found" (30 : Nat) "RoundPlans$Found" "backs" "[I") ∈ zT := zT_of 173 (by decide +kernel) (by decide +kernel)
theorem wd_174 : (Jvm.Cond.fieldLink "RoundPlans$Rounds" (110 : Nat) "RoundPlans$Found" "backs" "[I") ∈ zT := zT_of 174 (by decide +kernel) (by decide +kernel)
theorem wd_175 : (Jvm.Cond.fieldLink "RoundPlans" (166 : Nat) "RoundPlans$Found" "backs" "[I") ∈ zT := zT_of 175 (by decide +kernel) (by decide +kernel)
theorem wd_176 : (Jvm.Cond.fieldLink "RoundPlans$Found" (33 : Nat) "RoundPlans$Found" "more" "[J") ∈ zT := zT_of 176 (by decide +kernel) (by decide +kernel)
theorem wd_177 : (Jvm.Cond.fieldLink "RoundPlans" (129 : Nat) "RoundPlans$Found" "more" "[J") ∈ zT := zT_of 177 (by decide +kernel) (by decide +kernel)
theorem wd_197 : (Jvm.Cond.fieldLink "RoundPlans" (12 : Nat) "RoundPlans" "told" "LRoundPlans$Told;") ∈ zT := zT_of 197 (by decide +kernel) (by decide +kernel)
theorem wd_198 : (Jvm.Cond.fieldLink "RoundPlans" (21 : Nat) "RoundPlans" "rounds" "LRoundPlans$Rounds;") ∈ zT := zT_of 198 (by decide +kernel) (by decide +kernel)
theorem wd_199 : (Jvm.Cond.fieldLink "RoundPlans" (30 : Nat) "RoundPlans" "plans" "LRoundPlans$Plans;") ∈ zT := zT_of 199 (by decide +kernel) (by decide +kernel)
theorem wd_200 : (Jvm.Cond.fieldLink "RoundPlans" (37 : Nat) "RoundPlans" "found" "LRoundPlans$Found;") ∈ zT := zT_of 200 (by decide +kernel) (by decide +kernel)
theorem wd_210 : (Jvm.Cond.methodLink "RoundPlansLaw" (13 : Nat) ({ cls := "RoundPlans", name := "stop", desc := "(I)I" } : Jvm.MethodName)) ∈ zT := zT_of 210 (by decide +kernel) (by decide +kernel)
theorem wd_211 : (Jvm.Cond.instanceMethod ({ cls := "RoundPlans", name := "stop", desc := "(I)I" } : Jvm.MethodName)) ∈ zT := zT_of 211 (by decide +kernel) (by decide +kernel)
theorem wd_212 : (Jvm.Cond.selects "RoundPlans" ({ cls := "RoundPlans", name := "stop", desc := "(I)I" } : Jvm.MethodName) ({ cls := "RoundPlans", name := "stop", desc := "(I)I" } : Jvm.MethodName)) ∈ zT := zT_of 212 (by decide +kernel) (by decide +kernel)
set_option maxRecDepth 100000 in
theorem wd_213 : zc g_rp_stop ∈ zT := zT_of 213 rfl rfl
theorem wd_214 : (Jvm.Cond.constant "RoundPlans" (45 : Nat) (100000 : Int32)) ∈ zT := zT_of 214 (by decide +kernel) (by decide +kernel)
theorem wd_215 : (Jvm.Cond.methodLink "RoundPlans" (46 : Nat) ({ cls := "RoundPlans", name := "isWithin", desc := "(II)Z" } : Jvm.MethodName)) ∈ zT := zT_of 215 (by decide +kernel) (by decide +kernel)
theorem wd_216 : (Jvm.Cond.static ({ cls := "RoundPlans", name := "isWithin", desc := "(II)Z" } : Jvm.MethodName)) ∈ zT := zT_of 216 (by decide +kernel) (by decide +kernel)
set_option maxRecDepth 100000 in
theorem wd_217 : zc g_rp_isWithin ∈ zT := zT_of 217 rfl rfl
theorem wd_218 : (Jvm.Cond.methodLink "RoundPlans" (50 : Nat) ({ cls := "RoundPlans$Told", name := "addStop", desc := "(I)I" } : Jvm.MethodName)) ∈ zT := zT_of 218 (by decide +kernel) (by decide +kernel)
theorem wd_219 : (Jvm.Cond.instanceMethod ({ cls := "RoundPlans$Told", name := "addStop", desc := "(I)I" } : Jvm.MethodName)) ∈ zT := zT_of 219 (by decide +kernel) (by decide +kernel)
theorem wd_220 : (Jvm.Cond.selects "RoundPlans$Told" ({ cls := "RoundPlans$Told", name := "addStop", desc := "(I)I" } : Jvm.MethodName) ({ cls := "RoundPlans$Told", name := "addStop", desc := "(I)I" } : Jvm.MethodName)) ∈ zT := zT_of 220 (by decide +kernel) (by decide +kernel)
set_option maxRecDepth 100000 in
theorem wd_221 : zc g_td_addStop ∈ zT := zT_of 221 rfl rfl
theorem wd_222 : (Jvm.Cond.methodLink "RoundPlansLaw" (18 : Nat) ({ cls := "RoundPlans", name := "hours", desc := "(IIII)Z" } : Jvm.MethodName)) ∈ zT := zT_of 222 (by decide +kernel) (by decide +kernel)
theorem wd_223 : (Jvm.Cond.instanceMethod ({ cls := "RoundPlans", name := "hours", desc := "(IIII)Z" } : Jvm.MethodName)) ∈ zT := zT_of 223 (by decide +kernel) (by decide +kernel)
theorem wd_224 : (Jvm.Cond.selects "RoundPlans" ({ cls := "RoundPlans", name := "hours", desc := "(IIII)Z" } : Jvm.MethodName) ({ cls := "RoundPlans", name := "hours", desc := "(IIII)Z" } : Jvm.MethodName)) ∈ zT := zT_of 224 (by decide +kernel) (by decide +kernel)
set_option maxRecDepth 100000 in
theorem wd_225 : zc g_rp_hours ∈ zT := zT_of 225 rfl rfl
theorem wd_226 : (Jvm.Cond.methodLink "RoundPlans" (54 : Nat) ({ cls := "RoundPlans$Told", name := "hasStop", desc := "(I)Z" } : Jvm.MethodName)) ∈ zT := zT_of 226 (by decide +kernel) (by decide +kernel)
theorem wd_227 : (Jvm.Cond.instanceMethod ({ cls := "RoundPlans$Told", name := "hasStop", desc := "(I)Z" } : Jvm.MethodName)) ∈ zT := zT_of 227 (by decide +kernel) (by decide +kernel)
theorem wd_228 : (Jvm.Cond.selects "RoundPlans$Told" ({ cls := "RoundPlans$Told", name := "hasStop", desc := "(I)Z" } : Jvm.MethodName) ({ cls := "RoundPlans$Told", name := "hasStop", desc := "(I)Z" } : Jvm.MethodName)) ∈ zT := zT_of 228 (by decide +kernel) (by decide +kernel)
set_option maxRecDepth 100000 in
theorem wd_229 : zc g_td_hasStop ∈ zT := zT_of 229 rfl rfl
theorem wd_230 : (Jvm.Cond.methodLink "RoundPlans" (58 : Nat) ({ cls := "RoundPlans", name := "isSpan", desc := "(II)Z" } : Jvm.MethodName)) ∈ zT := zT_of 230 (by decide +kernel) (by decide +kernel)
theorem wd_231 : (Jvm.Cond.static ({ cls := "RoundPlans", name := "isSpan", desc := "(II)Z" } : Jvm.MethodName)) ∈ zT := zT_of 231 (by decide +kernel) (by decide +kernel)
set_option maxRecDepth 100000 in
theorem wd_232 : zc g_rp_isSpan ∈ zT := zT_of 232 rfl rfl
theorem wd_233 : (Jvm.Cond.constant "RoundPlans" (171 : Nat) (86399 : Int32)) ∈ zT := zT_of 233 (by decide +kernel) (by decide +kernel)
theorem wd_234 : (Jvm.Cond.methodLink "RoundPlansLaw" (25 : Nat) ({ cls := "RoundPlans", name := "penalty", desc := "(IJ)Z" } : Jvm.MethodName)) ∈ zT := zT_of 234 (by decide +kernel) (by decide +kernel)
theorem wd_235 : (Jvm.Cond.instanceMethod ({ cls := "RoundPlans", name := "penalty", desc := "(IJ)Z" } : Jvm.MethodName)) ∈ zT := zT_of 235 (by decide +kernel) (by decide +kernel)
theorem wd_236 : (Jvm.Cond.selects "RoundPlans" ({ cls := "RoundPlans", name := "penalty", desc := "(IJ)Z" } : Jvm.MethodName) ({ cls := "RoundPlans", name := "penalty", desc := "(IJ)Z" } : Jvm.MethodName)) ∈ zT := zT_of 236 (by decide +kernel) (by decide +kernel)
set_option maxRecDepth 100000 in
theorem wd_237 : zc g_rp_penalty ∈ zT := zT_of 237 rfl rfl
theorem wd_238 : (Jvm.Cond.constantLong "RoundPlans" (71 : Nat) (1000000000 : Int64)) ∈ zT := zT_of 238 (by decide +kernel) (by decide +kernel)
theorem wd_239 : (Jvm.Cond.methodLink "RoundPlansLaw" (30 : Nat) ({ cls := "RoundPlans", name := "vehicle", desc := "(IIII)I" } : Jvm.MethodName)) ∈ zT := zT_of 239 (by decide +kernel) (by decide +kernel)
theorem wd_240 : (Jvm.Cond.instanceMethod ({ cls := "RoundPlans", name := "vehicle", desc := "(IIII)I" } : Jvm.MethodName)) ∈ zT := zT_of 240 (by decide +kernel) (by decide +kernel)
theorem wd_241 : (Jvm.Cond.selects "RoundPlans" ({ cls := "RoundPlans", name := "vehicle", desc := "(IIII)I" } : Jvm.MethodName) ({ cls := "RoundPlans", name := "vehicle", desc := "(IIII)I" } : Jvm.MethodName)) ∈ zT := zT_of 241 (by decide +kernel) (by decide +kernel)
set_option maxRecDepth 100000 in
theorem wd_242 : zc g_rp_vehicle ∈ zT := zT_of 242 rfl rfl
theorem wd_243 : (Jvm.Cond.constant "RoundPlans" (80 : Nat) (1000000 : Int32)) ∈ zT := zT_of 243 (by decide +kernel) (by decide +kernel)
theorem wd_244 : (Jvm.Cond.methodLink "RoundPlans" (81 : Nat) ({ cls := "RoundPlans$Told", name := "addVehicle", desc := "(IIII)I" } : Jvm.MethodName)) ∈ zT := zT_of 244 (by decide +kernel) (by decide +kernel)
theorem wd_245 : (Jvm.Cond.instanceMethod ({ cls := "RoundPlans$Told", name := "addVehicle", desc := "(IIII)I" } : Jvm.MethodName)) ∈ zT := zT_of 245 (by decide +kernel) (by decide +kernel)
theorem wd_246 : (Jvm.Cond.selects "RoundPlans$Told" ({ cls := "RoundPlans$Told", name := "addVehicle", desc := "(IIII)I" } : Jvm.MethodName) ({ cls := "RoundPlans$Told", name := "addVehicle", desc := "(IIII)I" } : Jvm.MethodName)) ∈ zT := zT_of 246 (by decide +kernel) (by decide +kernel)
set_option maxRecDepth 100000 in
theorem wd_247 : zc g_td_addVehicle ∈ zT := zT_of 247 rfl rfl
theorem wd_248 : (Jvm.Cond.methodLink "RoundPlansLaw" (35 : Nat) ({ cls := "RoundPlans", name := "way", desc := "(III)Z" } : Jvm.MethodName)) ∈ zT := zT_of 248 (by decide +kernel) (by decide +kernel)
theorem wd_249 : (Jvm.Cond.instanceMethod ({ cls := "RoundPlans", name := "way", desc := "(III)Z" } : Jvm.MethodName)) ∈ zT := zT_of 249 (by decide +kernel) (by decide +kernel)
theorem wd_250 : (Jvm.Cond.selects "RoundPlans" ({ cls := "RoundPlans", name := "way", desc := "(III)Z" } : Jvm.MethodName) ({ cls := "RoundPlans", name := "way", desc := "(III)Z" } : Jvm.MethodName)) ∈ zT := zT_of 250 (by decide +kernel) (by decide +kernel)
set_option maxRecDepth 100000 in
theorem wd_251 : zc g_rp_way ∈ zT := zT_of 251 rfl rfl
theorem wd_252 : (Jvm.Cond.constant "RoundPlans" (85 : Nat) (50000 : Int32)) ∈ zT := zT_of 252 (by decide +kernel) (by decide +kernel)
theorem wd_253 : (Jvm.Cond.methodLink "RoundPlansLaw" (40 : Nat) ({ cls := "RoundPlans", name := "fixed", desc := "(II)Z" } : Jvm.MethodName)) ∈ zT := zT_of 253 (by decide +kernel) (by decide +kernel)
theorem wd_254 : (Jvm.Cond.instanceMethod ({ cls := "RoundPlans", name := "fixed", desc := "(II)Z" } : Jvm.MethodName)) ∈ zT := zT_of 254 (by decide +kernel) (by decide +kernel)
theorem wd_255 : (Jvm.Cond.selects "RoundPlans" ({ cls := "RoundPlans", name := "fixed", desc := "(II)Z" } : Jvm.MethodName) ({ cls := "RoundPlans", name := "fixed", desc := "(II)Z" } : Jvm.MethodName)) ∈ zT := zT_of 255 (by decide +kernel) (by decide +kernel)
set_option maxRecDepth 100000 in
theorem wd_256 : zc g_rp_fixed ∈ zT := zT_of 256 rfl rfl
theorem wd_257 : (Jvm.Cond.methodLink "RoundPlans" (89 : Nat) ({ cls := "RoundPlans$Told", name := "hasVehicle", desc := "(I)Z" } : Jvm.MethodName)) ∈ zT := zT_of 257 (by decide +kernel) (by decide +kernel)
theorem wd_258 : (Jvm.Cond.instanceMethod ({ cls := "RoundPlans$Told", name := "hasVehicle", desc := "(I)Z" } : Jvm.MethodName)) ∈ zT := zT_of 258 (by decide +kernel) (by decide +kernel)
theorem wd_259 : (Jvm.Cond.selects "RoundPlans$Told" ({ cls := "RoundPlans$Told", name := "hasVehicle", desc := "(I)Z" } : Jvm.MethodName) ({ cls := "RoundPlans$Told", name := "hasVehicle", desc := "(I)Z" } : Jvm.MethodName)) ∈ zT := zT_of 259 (by decide +kernel) (by decide +kernel)
set_option maxRecDepth 100000 in
theorem wd_260 : zc g_td_hasVehicle ∈ zT := zT_of 260 rfl rfl
theorem wd_261 : (Jvm.Cond.methodLink "RoundPlansLaw" (45 : Nat) ({ cls := "RoundPlans", name := "apart", desc := "(IIZ)Z" } : Jvm.MethodName)) ∈ zT := zT_of 261 (by decide +kernel) (by decide +kernel)
theorem wd_262 : (Jvm.Cond.instanceMethod ({ cls := "RoundPlans", name := "apart", desc := "(IIZ)Z" } : Jvm.MethodName)) ∈ zT := zT_of 262 (by decide +kernel) (by decide +kernel)
theorem wd_263 : (Jvm.Cond.selects "RoundPlans" ({ cls := "RoundPlans", name := "apart", desc := "(IIZ)Z" } : Jvm.MethodName) ({ cls := "RoundPlans", name := "apart", desc := "(IIZ)Z" } : Jvm.MethodName)) ∈ zT := zT_of 263 (by decide +kernel) (by decide +kernel)
set_option maxRecDepth 100000 in
theorem wd_264 : zc g_rp_apart ∈ zT := zT_of 264 rfl rfl
theorem wd_265 : (Jvm.Cond.methodLink "RoundPlans" (95 : Nat) ({ cls := "RoundPlans$Told", name := "areTwoStops", desc := "(II)Z" } : Jvm.MethodName)) ∈ zT := zT_of 265 (by decide +kernel) (by decide +kernel)
theorem wd_266 : (Jvm.Cond.instanceMethod ({ cls := "RoundPlans$Told", name := "areTwoStops", desc := "(II)Z" } : Jvm.MethodName)) ∈ zT := zT_of 266 (by decide +kernel) (by decide +kernel)
theorem wd_267 : (Jvm.Cond.selects "RoundPlans$Told" ({ cls := "RoundPlans$Told", name := "areTwoStops", desc := "(II)Z" } : Jvm.MethodName) ({ cls := "RoundPlans$Told", name := "areTwoStops", desc := "(II)Z" } : Jvm.MethodName)) ∈ zT := zT_of 267 (by decide +kernel) (by decide +kernel)
set_option maxRecDepth 100000 in
theorem wd_268 : zc g_td_areTwoStops ∈ zT := zT_of 268 rfl rfl
theorem wd_269 : (Jvm.Cond.methodLink "RoundPlans$Told" (72 : Nat) ({ cls := "RoundPlans$Told", name := "hasStop", desc := "(I)Z" } : Jvm.MethodName)) ∈ zT := zT_of 269 (by decide +kernel) (by decide +kernel)
theorem wd_270 : (Jvm.Cond.methodLink "RoundPlans" (98 : Nat) ({ cls := "RoundPlans$Told", name := "setApart", desc := "(IIZ)V" } : Jvm.MethodName)) ∈ zT := zT_of 270 (by decide +kernel) (by decide +kernel)
theorem wd_271 : (Jvm.Cond.instanceMethod ({ cls := "RoundPlans$Told", name := "setApart", desc := "(IIZ)V" } : Jvm.MethodName)) ∈ zT := zT_of 271 (by decide +kernel) (by decide +kernel)
theorem wd_272 : (Jvm.Cond.selects "RoundPlans$Told" ({ cls := "RoundPlans$Told", name := "setApart", desc := "(IIZ)V" } : Jvm.MethodName) ({ cls := "RoundPlans$Told", name := "setApart", desc := "(IIZ)V" } : Jvm.MethodName)) ∈ zT := zT_of 272 (by decide +kernel) (by decide +kernel)
set_option maxRecDepth 100000 in
theorem wd_273 : zc g_td_setApart ∈ zT := zT_of 273 rfl rfl
theorem wd_275 : (Jvm.Cond.static ({ cls := "RoundPlans", name := "with", desc := "(II)I" } : Jvm.MethodName)) ∈ zT := zT_of 275 (by decide +kernel) (by decide +kernel)
set_option maxRecDepth 100000 in
theorem wd_276 : zc g_rp_with ∈ zT := zT_of 276 rfl rfl
theorem wd_278 : (Jvm.Cond.static ({ cls := "RoundPlans", name := "without", desc := "(II)I" } : Jvm.MethodName)) ∈ zT := zT_of 278 (by decide +kernel) (by decide +kernel)
set_option maxRecDepth 100000 in
theorem wd_279 : zc g_rp_without ∈ zT := zT_of 279 rfl rfl
theorem wd_280 : (Jvm.Cond.methodLink "RoundPlansLaw" (50 : Nat) ({ cls := "RoundPlans", name := "before", desc := "(II)Z" } : Jvm.MethodName)) ∈ zT := zT_of 280 (by decide +kernel) (by decide +kernel)
theorem wd_281 : (Jvm.Cond.instanceMethod ({ cls := "RoundPlans", name := "before", desc := "(II)Z" } : Jvm.MethodName)) ∈ zT := zT_of 281 (by decide +kernel) (by decide +kernel)
theorem wd_282 : (Jvm.Cond.selects "RoundPlans" ({ cls := "RoundPlans", name := "before", desc := "(II)Z" } : Jvm.MethodName) ({ cls := "RoundPlans", name := "before", desc := "(II)Z" } : Jvm.MethodName)) ∈ zT := zT_of 282 (by decide +kernel) (by decide +kernel)
set_option maxRecDepth 100000 in
theorem wd_283 : zc g_rp_before ∈ zT := zT_of 283 rfl rfl
theorem wd_284 : (Jvm.Cond.methodLink "RoundPlans" (105 : Nat) ({ cls := "RoundPlans", name := "holds", desc := "(II)Z" } : Jvm.MethodName)) ∈ zT := zT_of 284 (by decide +kernel) (by decide +kernel)
theorem wd_285 : (Jvm.Cond.static ({ cls := "RoundPlans", name := "holds", desc := "(II)Z" } : Jvm.MethodName)) ∈ zT := zT_of 285 (by decide +kernel) (by decide +kernel)
set_option maxRecDepth 100000 in
theorem wd_286 : zc g_rp_holds ∈ zT := zT_of 286 rfl rfl
theorem wd_287 : (Jvm.Cond.methodLink "RoundPlans" (111 : Nat) ({ cls := "RoundPlans$Told", name := "setBefore", desc := "(II)V" } : Jvm.MethodName)) ∈ zT := zT_of 287 (by decide +kernel) (by decide +kernel)
theorem wd_288 : (Jvm.Cond.instanceMethod ({ cls := "RoundPlans$Told", name := "setBefore", desc := "(II)V" } : Jvm.MethodName)) ∈ zT := zT_of 288 (by decide +kernel) (by decide +kernel)
theorem wd_289 : (Jvm.Cond.selects "RoundPlans$Told" ({ cls := "RoundPlans$Told", name := "setBefore", desc := "(II)V" } : Jvm.MethodName) ({ cls := "RoundPlans$Told", name := "setBefore", desc := "(II)V" } : Jvm.MethodName)) ∈ zT := zT_of 289 (by decide +kernel) (by decide +kernel)
set_option maxRecDepth 100000 in
theorem wd_290 : zc g_td_setBefore ∈ zT := zT_of 290 rfl rfl
theorem wd_292 : (Jvm.Cond.methodLink "RoundPlansLaw" (54 : Nat) ({ cls := "RoundPlans", name := "run", desc := "()I" } : Jvm.MethodName)) ∈ zT := zT_of 292 (by decide +kernel) (by decide +kernel)
theorem wd_293 : (Jvm.Cond.instanceMethod ({ cls := "RoundPlans", name := "run", desc := "()I" } : Jvm.MethodName)) ∈ zT := zT_of 293 (by decide +kernel) (by decide +kernel)
theorem wd_294 : (Jvm.Cond.selects "RoundPlans" ({ cls := "RoundPlans", name := "run", desc := "()I" } : Jvm.MethodName) ({ cls := "RoundPlans", name := "run", desc := "()I" } : Jvm.MethodName)) ∈ zT := zT_of 294 (by decide +kernel) (by decide +kernel)
set_option maxRecDepth 100000 in
theorem wd_295 : zc g_rp_run ∈ zT := zT_of 295 rfl rfl
theorem wd_296 : (Jvm.Cond.methodLink "RoundPlans" (115 : Nat) ({ cls := "RoundPlans$Rounds", name := "findBacks", desc := "()V" } : Jvm.MethodName)) ∈ zT := zT_of 296 (by decide +kernel) (by decide +kernel)
theorem wd_297 : (Jvm.Cond.instanceMethod ({ cls := "RoundPlans$Rounds", name := "findBacks", desc := "()V" } : Jvm.MethodName)) ∈ zT := zT_of 297 (by decide +kernel) (by decide +kernel)
theorem wd_298 : (Jvm.Cond.selects "RoundPlans$Rounds" ({ cls := "RoundPlans$Rounds", name := "findBacks", desc := "()V" } : Jvm.MethodName) ({ cls := "RoundPlans$Rounds", name := "findBacks", desc := "()V" } : Jvm.MethodName)) ∈ zT := zT_of 298 (by decide +kernel) (by decide +kernel)
set_option maxRecDepth 100000 in
theorem wd_299 : zc g_rd_findBacks ∈ zT := zT_of 299 rfl rfl
theorem wd_300 : (Jvm.Cond.methodLink "RoundPlans$Rounds" (34 : Nat) ({ cls := "RoundPlans$Rounds", name := "mayHave", desc := "(II)Z" } : Jvm.MethodName)) ∈ zT := zT_of 300 (by decide +kernel) (by decide +kernel)
theorem wd_302 : (Jvm.Cond.instanceMethod ({ cls := "RoundPlans$Rounds", name := "mayHave", desc := "(II)Z" } : Jvm.MethodName)) ∈ zT := zT_of 302 (by decide +kernel) (by decide +kernel)
set_option maxRecDepth 100000 in
theorem wd_303 : zc g_rd_mayHave ∈ zT := zT_of 303 rfl rfl
theorem wd_305 : (Jvm.Cond.methodLink "RoundPlans$Rounds" (38 : Nat) ({ cls := "RoundPlans$Rounds", name := "findBack", desc := "(II)I" } : Jvm.MethodName)) ∈ zT := zT_of 305 (by decide +kernel) (by decide +kernel)
theorem wd_307 : (Jvm.Cond.instanceMethod ({ cls := "RoundPlans$Rounds", name := "findBack", desc := "(II)I" } : Jvm.MethodName)) ∈ zT := zT_of 307 (by decide +kernel) (by decide +kernel)
set_option maxRecDepth 100000 in
theorem wd_308 : zc g_rd_findBack ∈ zT := zT_of 308 rfl rfl
theorem wd_309 : (Jvm.Cond.constant "RoundPlans$Rounds" (42 : Nat) (1073741824 : Int32)) ∈ zT := zT_of 309 (by decide +kernel) (by decide +kernel)
theorem wd_310 : (Jvm.Cond.methodLink "RoundPlans$Rounds" (58 : Nat) ({ cls := "RoundPlans$Rounds", name := "findReady", desc := "(III)I" } : Jvm.MethodName)) ∈ zT := zT_of 310 (by decide +kernel) (by decide +kernel)
theorem wd_312 : (Jvm.Cond.instanceMethod ({ cls := "RoundPlans$Rounds", name := "findReady", desc := "(III)I" } : Jvm.MethodName)) ∈ zT := zT_of 312 (by decide +kernel) (by decide +kernel)
set_option maxRecDepth 100000 in
theorem wd_313 : zc g_rd_findReady ∈ zT := zT_of 313 rfl rfl
theorem wd_315 : (Jvm.Cond.methodLink "RoundPlans$Rounds" (62 : Nat) ({ cls := "RoundPlans$Told", name := "seconds", desc := "(II)I" } : Jvm.MethodName)) ∈ zT := zT_of 315 (by decide +kernel) (by decide +kernel)
theorem wd_316 : (Jvm.Cond.instanceMethod ({ cls := "RoundPlans$Told", name := "seconds", desc := "(II)I" } : Jvm.MethodName)) ∈ zT := zT_of 316 (by decide +kernel) (by decide +kernel)
theorem wd_317 : (Jvm.Cond.selects "RoundPlans$Told" ({ cls := "RoundPlans$Told", name := "seconds", desc := "(II)I" } : Jvm.MethodName) ({ cls := "RoundPlans$Told", name := "seconds", desc := "(II)I" } : Jvm.MethodName)) ∈ zT := zT_of 317 (by decide +kernel) (by decide +kernel)
set_option maxRecDepth 100000 in
theorem wd_318 : zc g_td_seconds ∈ zT := zT_of 318 rfl rfl
theorem wd_319 : (Jvm.Cond.methodLink "RoundPlans$Rounds" (65 : Nat) ({ cls := "java/lang/Math", name := "min", desc := "(II)I" } : Jvm.MethodName)) ∈ zT := zT_of 319 (by decide +kernel) (by decide +kernel)
theorem wd_320 : (Jvm.Cond.static ({ cls := "java/lang/Math", name := "min", desc := "(II)I" } : Jvm.MethodName)) ∈ zT := zT_of 320 (by decide +kernel) (by decide +kernel)
set_option maxRecDepth 100000 in
theorem wd_321 : (Cond.code ({ cls := "java/lang/Math", name := "min", desc := "(II)I" } : Jvm.MethodName) prog_9_method_69_code (2 : Nat) (Option.some Jvm.ClassFile.FieldType.int)) ∈ zT := zT_of 321 rfl rfl
theorem wd_322 : (Jvm.Cond.methodLink "RoundPlans$Rounds" (88 : Nat) ({ cls := "java/lang/Math", name := "max", desc := "(II)I" } : Jvm.MethodName)) ∈ zT := zT_of 322 (by decide +kernel) (by decide +kernel)
theorem wd_323 : (Jvm.Cond.static ({ cls := "java/lang/Math", name := "max", desc := "(II)I" } : Jvm.MethodName)) ∈ zT := zT_of 323 (by decide +kernel) (by decide +kernel)
set_option maxRecDepth 100000 in
theorem wd_324 : (Cond.code ({ cls := "java/lang/Math", name := "max", desc := "(II)I" } : Jvm.MethodName) prog_9_method_65_code (2 : Nat) (Option.some Jvm.ClassFile.FieldType.int)) ∈ zT := zT_of 324 rfl rfl
theorem wd_325 : (Jvm.Cond.methodLink "RoundPlans" (118 : Nat) ({ cls := "RoundPlans$Plans", name := "findPrices", desc := "()V" } : Jvm.MethodName)) ∈ zT := zT_of 325 (by decide +kernel) (by decide +kernel)
theorem wd_326 : (Jvm.Cond.instanceMethod ({ cls := "RoundPlans$Plans", name := "findPrices", desc := "()V" } : Jvm.MethodName)) ∈ zT := zT_of 326 (by decide +kernel) (by decide +kernel)
theorem wd_327 : (Jvm.Cond.selects "RoundPlans$Plans" ({ cls := "RoundPlans$Plans", name := "findPrices", desc := "()V" } : Jvm.MethodName) ({ cls := "RoundPlans$Plans", name := "findPrices", desc := "()V" } : Jvm.MethodName)) ∈ zT := zT_of 327 (by decide +kernel) (by decide +kernel)
set_option maxRecDepth 100000 in
theorem wd_328 : zc g_pl_findPrices ∈ zT := zT_of 328 rfl rfl
theorem wd_329 : (Jvm.Cond.methodLink "RoundPlans$Plans" (35 : Nat) ({ cls := "RoundPlans$Plans", name := "codeOfOnes", desc := "(I)J" } : Jvm.MethodName)) ∈ zT := zT_of 329 (by decide +kernel) (by decide +kernel)
theorem wd_331 : (Jvm.Cond.instanceMethod ({ cls := "RoundPlans$Plans", name := "codeOfOnes", desc := "(I)J" } : Jvm.MethodName)) ∈ zT := zT_of 331 (by decide +kernel) (by decide +kernel)
set_option maxRecDepth 100000 in
theorem wd_332 : zc g_pl_codeOfOnes ∈ zT := zT_of 332 rfl rfl
theorem wd_335 : (Jvm.Cond.static ({ cls := "RoundPlans", name := "codeShift", desc := "(I)I" } : Jvm.MethodName)) ∈ zT := zT_of 335 (by decide +kernel) (by decide +kernel)
set_option maxRecDepth 100000 in
theorem wd_336 : zc g_rp_codeShift ∈ zT := zT_of 336 rfl rfl
theorem wd_337 : (Jvm.Cond.methodLink "RoundPlans$Plans" (39 : Nat) ({ cls := "RoundPlans$Plans", name := "penaltiesOf", desc := "(I)J" } : Jvm.MethodName)) ∈ zT := zT_of 337 (by decide +kernel) (by decide +kernel)
theorem wd_339 : (Jvm.Cond.instanceMethod ({ cls := "RoundPlans$Plans", name := "penaltiesOf", desc := "(I)J" } : Jvm.MethodName)) ∈ zT := zT_of 339 (by decide +kernel) (by decide +kernel)
set_option maxRecDepth 100000 in
theorem wd_340 : zc g_pl_penaltiesOf ∈ zT := zT_of 340 rfl rfl
theorem wd_341 : (Jvm.Cond.constantLong "RoundPlans$Plans" (42 : Nat) (3 : Int64)) ∈ zT := zT_of 341 (by decide +kernel) (by decide +kernel)
theorem wd_342 : (Jvm.Cond.methodLink "RoundPlans$Plans" (47 : Nat) ({ cls := "RoundPlans$Plans", name := "findPrice", desc := "(IIJ)J" } : Jvm.MethodName)) ∈ zT := zT_of 342 (by decide +kernel) (by decide +kernel)
theorem wd_344 : (Jvm.Cond.instanceMethod ({ cls := "RoundPlans$Plans", name := "findPrice", desc := "(IIJ)J" } : Jvm.MethodName)) ∈ zT := zT_of 344 (by decide +kernel) (by decide +kernel)
set_option maxRecDepth 100000 in
theorem wd_345 : zc g_pl_findPrice ∈ zT := zT_of 345 rfl rfl
theorem wd_346 : (Jvm.Cond.methodLink "RoundPlans$Plans" (51 : Nat) ({ cls := "RoundPlans$Rounds", name := "firstBack", desc := "(II)I" } : Jvm.MethodName)) ∈ zT := zT_of 346 (by decide +kernel) (by decide +kernel)
theorem wd_347 : (Jvm.Cond.instanceMethod ({ cls := "RoundPlans$Rounds", name := "firstBack", desc := "(II)I" } : Jvm.MethodName)) ∈ zT := zT_of 347 (by decide +kernel) (by decide +kernel)
theorem wd_348 : (Jvm.Cond.selects "RoundPlans$Rounds" ({ cls := "RoundPlans$Rounds", name := "firstBack", desc := "(II)I" } : Jvm.MethodName) ({ cls := "RoundPlans$Rounds", name := "firstBack", desc := "(II)I" } : Jvm.MethodName)) ∈ zT := zT_of 348 (by decide +kernel) (by decide +kernel)
set_option maxRecDepth 100000 in
theorem wd_349 : zc g_rd_firstBack ∈ zT := zT_of 349 rfl rfl
theorem wd_350 : (Jvm.Cond.constant "RoundPlans$Plans" (57 : Nat) (1073741824 : Int32)) ∈ zT := zT_of 350 (by decide +kernel) (by decide +kernel)
theorem wd_351 : (Jvm.Cond.constantLong "RoundPlans$Plans" (58 : Nat) (1152921504606846976 : Int64)) ∈ zT := zT_of 351 (by decide +kernel) (by decide +kernel)
theorem wd_352 : (Jvm.Cond.methodLink "RoundPlans" (121 : Nat) ({ cls := "RoundPlans$Plans", name := "cheapest", desc := "(I)J" } : Jvm.MethodName)) ∈ zT := zT_of 352 (by decide +kernel) (by decide +kernel)
theorem wd_353 : (Jvm.Cond.instanceMethod ({ cls := "RoundPlans$Plans", name := "cheapest", desc := "(I)J" } : Jvm.MethodName)) ∈ zT := zT_of 353 (by decide +kernel) (by decide +kernel)
theorem wd_354 : (Jvm.Cond.selects "RoundPlans$Plans" ({ cls := "RoundPlans$Plans", name := "cheapest", desc := "(I)J" } : Jvm.MethodName) ({ cls := "RoundPlans$Plans", name := "cheapest", desc := "(I)J" } : Jvm.MethodName)) ∈ zT := zT_of 354 (by decide +kernel) (by decide +kernel)
set_option maxRecDepth 100000 in
theorem wd_355 : zc g_pl_cheapest ∈ zT := zT_of 355 rfl rfl
theorem wd_356 : (Jvm.Cond.methodLink "RoundPlans$Plans" (78 : Nat) ({ cls := "java/lang/System", name := "arraycopy", desc := "(Ljava/lang/Object;ILjava/lang/Object;II)V" } : Jvm.MethodName)) ∈ zT := zT_of 356 (by decide +kernel) (by decide +kernel)
theorem wd_357 : (Jvm.Cond.static ({ cls := "java/lang/System", name := "arraycopy", desc := "(Ljava/lang/Object;ILjava/lang/Object;II)V" } : Jvm.MethodName)) ∈ zT := zT_of 357 (by decide +kernel) (by decide +kernel)
theorem wd_358 : (Jvm.Cond.native ({ cls := "java/lang/System", name := "arraycopy", desc := "(Ljava/lang/Object;ILjava/lang/Object;II)V" } : Jvm.MethodName)) ∈ zT := zT_of 358 (by decide +kernel) (by decide +kernel)
theorem wd_359 : (Jvm.Cond.methodLink "RoundPlans$Plans" (84 : Nat) ({ cls := "RoundPlans$Plans", name := "addRounds", desc := "(II)V" } : Jvm.MethodName)) ∈ zT := zT_of 359 (by decide +kernel) (by decide +kernel)
theorem wd_361 : (Jvm.Cond.instanceMethod ({ cls := "RoundPlans$Plans", name := "addRounds", desc := "(II)V" } : Jvm.MethodName)) ∈ zT := zT_of 361 (by decide +kernel) (by decide +kernel)
set_option maxRecDepth 100000 in
theorem wd_362 : zc g_pl_addRounds ∈ zT := zT_of 362 rfl rfl
theorem wd_363 : (Jvm.Cond.methodLink "RoundPlans$Plans" (88 : Nat) ({ cls := "RoundPlans$Plans", name := "leastWith", desc := "(II)J" } : Jvm.MethodName)) ∈ zT := zT_of 363 (by decide +kernel) (by decide +kernel)
theorem wd_365 : (Jvm.Cond.instanceMethod ({ cls := "RoundPlans$Plans", name := "leastWith", desc := "(II)J" } : Jvm.MethodName)) ∈ zT := zT_of 365 (by decide +kernel) (by decide +kernel)
set_option maxRecDepth 100000 in
theorem wd_366 : zc g_pl_leastWith ∈ zT := zT_of 366 rfl rfl
theorem wd_367 : (Jvm.Cond.methodLink "RoundPlans$Plans" (92 : Nat) ({ cls := "java/lang/Math", name := "min", desc := "(JJ)J" } : Jvm.MethodName)) ∈ zT := zT_of 367 (by decide +kernel) (by decide +kernel)
theorem wd_368 : (Jvm.Cond.static ({ cls := "java/lang/Math", name := "min", desc := "(JJ)J" } : Jvm.MethodName)) ∈ zT := zT_of 368 (by decide +kernel) (by decide +kernel)
set_option maxRecDepth 100000 in
theorem wd_369 : (Cond.code ({ cls := "java/lang/Math", name := "min", desc := "(JJ)J" } : Jvm.MethodName) prog_9_method_70_code (4 : Nat) (Option.some Jvm.ClassFile.FieldType.long)) ∈ zT := zT_of 369 rfl rfl
theorem wd_370 : (Jvm.Cond.methodLink "RoundPlans" (125 : Nat) ({ cls := "RoundPlans$Found", name := "take", desc := "(LRoundPlans$Told;J)V" } : Jvm.MethodName)) ∈ zT := zT_of 370 (by decide +kernel) (by decide +kernel)
theorem wd_371 : (Jvm.Cond.instanceMethod ({ cls := "RoundPlans$Found", name := "take", desc := "(LRoundPlans$Told;J)V" } : Jvm.MethodName)) ∈ zT := zT_of 371 (by decide +kernel) (by decide +kernel)
theorem wd_372 : (Jvm.Cond.selects "RoundPlans$Found" ({ cls := "RoundPlans$Found", name := "take", desc := "(LRoundPlans$Told;J)V" } : Jvm.MethodName) ({ cls := "RoundPlans$Found", name := "take", desc := "(LRoundPlans$Told;J)V" } : Jvm.MethodName)) ∈ zT := zT_of 372 (by decide +kernel) (by decide +kernel)
set_option maxRecDepth 100000 in
theorem wd_373 : zc g_fd_take ∈ zT := zT_of 373 rfl rfl
theorem wd_375 : (Jvm.Cond.static ({ cls := "RoundPlans", name := "costIn", desc := "(J)J" } : Jvm.MethodName)) ∈ zT := zT_of 375 (by decide +kernel) (by decide +kernel)
set_option maxRecDepth 100000 in
theorem wd_376 : zc g_rp_costIn ∈ zT := zT_of 376 rfl rfl
theorem wd_378 : (Jvm.Cond.static ({ cls := "RoundPlans", name := "vehicleIn", desc := "(JI)I" } : Jvm.MethodName)) ∈ zT := zT_of 378 (by decide +kernel) (by decide +kernel)
set_option maxRecDepth 100000 in
theorem wd_379 : zc g_rp_vehicleIn ∈ zT := zT_of 379 rfl rfl
theorem wd_380 : (Jvm.Cond.methodLink "RoundPlans" (172 : Nat) ({ cls := "RoundPlans", name := "codeShift", desc := "(I)I" } : Jvm.MethodName)) ∈ zT := zT_of 380 (by decide +kernel) (by decide +kernel)
theorem wd_381 : (Jvm.Cond.methodLink "RoundPlans$Found" (59 : Nat) ({ cls := "java/util/Arrays", name := "fill", desc := "([II)V" } : Jvm.MethodName)) ∈ zT := zT_of 381 (by decide +kernel) (by decide +kernel)
theorem wd_382 : (Jvm.Cond.methodLink "RoundPlans" (132 : Nat) ({ cls := "RoundPlans", name := "costIn", desc := "(J)J" } : Jvm.MethodName)) ∈ zT := zT_of 382 (by decide +kernel) (by decide +kernel)
theorem wd_383 : (Jvm.Cond.methodLink "RoundPlans" (140 : Nat) ({ cls := "RoundPlans", name := "setIn", desc := "(JII)I" } : Jvm.MethodName)) ∈ zT := zT_of 383 (by decide +kernel) (by decide +kernel)
theorem wd_384 : (Jvm.Cond.static ({ cls := "RoundPlans", name := "setIn", desc := "(JII)I" } : Jvm.MethodName)) ∈ zT := zT_of 384 (by decide +kernel) (by decide +kernel)
set_option maxRecDepth 100000 in
theorem wd_385 : zc g_rp_setIn ∈ zT := zT_of 385 rfl rfl
theorem wd_386 : (Jvm.Cond.methodLink "RoundPlans" (175 : Nat) ({ cls := "RoundPlans", name := "vehicleIn", desc := "(JI)I" } : Jvm.MethodName)) ∈ zT := zT_of 386 (by decide +kernel) (by decide +kernel)
theorem wd_387 : (Jvm.Cond.methodLink "RoundPlans" (179 : Nat) ({ cls := "RoundPlans", name := "with", desc := "(II)I" } : Jvm.MethodName)) ∈ zT := zT_of 387 (by decide +kernel) (by decide +kernel)
theorem wd_388 : (Jvm.Cond.methodLink "RoundPlans" (144 : Nat) ({ cls := "RoundPlans$Rounds", name := "drive", desc := "(IILRoundPlans$Found;)V" } : Jvm.MethodName)) ∈ zT := zT_of 388 (by decide +kernel) (by decide +kernel)
theorem wd_389 : (Jvm.Cond.instanceMethod ({ cls := "RoundPlans$Rounds", name := "drive", desc := "(IILRoundPlans$Found;)V" } : Jvm.MethodName)) ∈ zT := zT_of 389 (by decide +kernel) (by decide +kernel)
theorem wd_390 : (Jvm.Cond.selects "RoundPlans$Rounds" ({ cls := "RoundPlans$Rounds", name := "drive", desc := "(IILRoundPlans$Found;)V" } : Jvm.MethodName) ({ cls := "RoundPlans$Rounds", name := "drive", desc := "(IILRoundPlans$Found;)V" } : Jvm.MethodName)) ∈ zT := zT_of 390 (by decide +kernel) (by decide +kernel)
set_option maxRecDepth 100000 in
theorem wd_391 : zc g_rd_drive ∈ zT := zT_of 391 rfl rfl
theorem wd_392 : (Jvm.Cond.methodLink "RoundPlans$Rounds" (94 : Nat) ({ cls := "RoundPlans$Rounds", name := "firstBack", desc := "(II)I" } : Jvm.MethodName)) ∈ zT := zT_of 392 (by decide +kernel) (by decide +kernel)
theorem wd_393 : (Jvm.Cond.methodLink "RoundPlans$Rounds" (97 : Nat) ({ cls := "RoundPlans$Rounds", name := "findLatest", desc := "(II)V" } : Jvm.MethodName)) ∈ zT := zT_of 393 (by decide +kernel) (by decide +kernel)
theorem wd_395 : (Jvm.Cond.instanceMethod ({ cls := "RoundPlans$Rounds", name := "findLatest", desc := "(II)V" } : Jvm.MethodName)) ∈ zT := zT_of 395 (by decide +kernel) (by decide +kernel)
set_option maxRecDepth 100000 in
theorem wd_396 : zc g_rd_findLatest ∈ zT := zT_of 396 rfl rfl
theorem wd_397 : (Jvm.Cond.methodLink "RoundPlans$Rounds" (111 : Nat) ({ cls := "RoundPlans$Rounds", name := "findLatestAt", desc := "(III)I" } : Jvm.MethodName)) ∈ zT := zT_of 397 (by decide +kernel) (by decide +kernel)
theorem wd_399 : (Jvm.Cond.instanceMethod ({ cls := "RoundPlans$Rounds", name := "findLatestAt", desc := "(III)I" } : Jvm.MethodName)) ∈ zT := zT_of 399 (by decide +kernel) (by decide +kernel)
set_option maxRecDepth 100000 in
theorem wd_400 : zc g_rd_findLatestAt ∈ zT := zT_of 400 rfl rfl
theorem wd_401 : (Jvm.Cond.methodLink "RoundPlans$Rounds" (101 : Nat) ({ cls := "RoundPlans$Rounds", name := "firstInTime", desc := "(III)I" } : Jvm.MethodName)) ∈ zT := zT_of 401 (by decide +kernel) (by decide +kernel)
theorem wd_403 : (Jvm.Cond.instanceMethod ({ cls := "RoundPlans$Rounds", name := "firstInTime", desc := "(III)I" } : Jvm.MethodName)) ∈ zT := zT_of 403 (by decide +kernel) (by decide +kernel)
set_option maxRecDepth 100000 in
theorem wd_404 : zc g_rd_firstInTime ∈ zT := zT_of 404 rfl rfl
theorem wd_405 : (Jvm.Cond.methodLink "RoundPlans$Rounds" (104 : Nat) ({ cls := "RoundPlans$Found", name := "note", desc := "(III)V" } : Jvm.MethodName)) ∈ zT := zT_of 405 (by decide +kernel) (by decide +kernel)
theorem wd_406 : (Jvm.Cond.instanceMethod ({ cls := "RoundPlans$Found", name := "note", desc := "(III)V" } : Jvm.MethodName)) ∈ zT := zT_of 406 (by decide +kernel) (by decide +kernel)
theorem wd_407 : (Jvm.Cond.selects "RoundPlans$Found" ({ cls := "RoundPlans$Found", name := "note", desc := "(III)V" } : Jvm.MethodName) ({ cls := "RoundPlans$Found", name := "note", desc := "(III)V" } : Jvm.MethodName)) ∈ zT := zT_of 407 (by decide +kernel) (by decide +kernel)
set_option maxRecDepth 100000 in
theorem wd_408 : zc g_fd_note ∈ zT := zT_of 408 rfl rfl
theorem wd_409 : (Jvm.Cond.methodLink "RoundPlans" (148 : Nat) ({ cls := "java/lang/Integer", name := "bitCount", desc := "(I)I" } : Jvm.MethodName)) ∈ zT := zT_of 409 (by decide +kernel) (by decide +kernel)
theorem wd_410 : (Jvm.Cond.static ({ cls := "java/lang/Integer", name := "bitCount", desc := "(I)I" } : Jvm.MethodName)) ∈ zT := zT_of 410 (by decide +kernel) (by decide +kernel)
set_option maxRecDepth 100000 in
theorem wd_411 : zc g_ig_bitCount ∈ zT := zT_of 411 rfl rfl
theorem wd_412 : (Jvm.Cond.constant "java/lang/Integer" (265 : Nat) (1431655765 : Int32)) ∈ zT := zT_of 412 (by decide +kernel) (by decide +kernel)
theorem wd_413 : (Jvm.Cond.constant "java/lang/Integer" (266 : Nat) (858993459 : Int32)) ∈ zT := zT_of 413 (by decide +kernel) (by decide +kernel)
theorem wd_414 : (Jvm.Cond.constant "java/lang/Integer" (267 : Nat) (252645135 : Int32)) ∈ zT := zT_of 414 (by decide +kernel) (by decide +kernel)
theorem wd_415 : (Jvm.Cond.methodLink "RoundPlansLaw" (59 : Nat) ({ cls := "RoundPlans", name := "cost", desc := "()J" } : Jvm.MethodName)) ∈ zT := zT_of 415 (by decide +kernel) (by decide +kernel)
theorem wd_416 : (Jvm.Cond.instanceMethod ({ cls := "RoundPlans", name := "cost", desc := "()J" } : Jvm.MethodName)) ∈ zT := zT_of 416 (by decide +kernel) (by decide +kernel)
theorem wd_417 : (Jvm.Cond.selects "RoundPlans" ({ cls := "RoundPlans", name := "cost", desc := "()J" } : Jvm.MethodName) ({ cls := "RoundPlans", name := "cost", desc := "()J" } : Jvm.MethodName)) ∈ zT := zT_of 417 (by decide +kernel) (by decide +kernel)
set_option maxRecDepth 100000 in
theorem wd_418 : zc g_rp_cost ∈ zT := zT_of 418 rfl rfl
theorem wd_419 : (Jvm.Cond.methodLink "RoundPlansLaw" (64 : Nat) ({ cls := "RoundPlans", name := "vehicleOf", desc := "(I)I" } : Jvm.MethodName)) ∈ zT := zT_of 419 (by decide +kernel) (by decide +kernel)
theorem wd_420 : (Jvm.Cond.instanceMethod ({ cls := "RoundPlans", name := "vehicleOf", desc := "(I)I" } : Jvm.MethodName)) ∈ zT := zT_of 420 (by decide +kernel) (by decide +kernel)
theorem wd_421 : (Jvm.Cond.selects "RoundPlans" ({ cls := "RoundPlans", name := "vehicleOf", desc := "(I)I" } : Jvm.MethodName) ({ cls := "RoundPlans", name := "vehicleOf", desc := "(I)I" } : Jvm.MethodName)) ∈ zT := zT_of 421 (by decide +kernel) (by decide +kernel)
set_option maxRecDepth 100000 in
theorem wd_422 : zc g_rp_vehicleOf ∈ zT := zT_of 422 rfl rfl
theorem wd_423 : (Jvm.Cond.methodLink "RoundPlans" (153 : Nat) ({ cls := "RoundPlans$Found", name := "hasStop", desc := "(I)Z" } : Jvm.MethodName)) ∈ zT := zT_of 423 (by decide +kernel) (by decide +kernel)
theorem wd_424 : (Jvm.Cond.instanceMethod ({ cls := "RoundPlans$Found", name := "hasStop", desc := "(I)Z" } : Jvm.MethodName)) ∈ zT := zT_of 424 (by decide +kernel) (by decide +kernel)
theorem wd_425 : (Jvm.Cond.selects "RoundPlans$Found" ({ cls := "RoundPlans$Found", name := "hasStop", desc := "(I)Z" } : Jvm.MethodName) ({ cls := "RoundPlans$Found", name := "hasStop", desc := "(I)Z" } : Jvm.MethodName)) ∈ zT := zT_of 425 (by decide +kernel) (by decide +kernel)
set_option maxRecDepth 100000 in
theorem wd_426 : zc g_fd_hasStop ∈ zT := zT_of 426 rfl rfl
theorem wd_427 : (Jvm.Cond.methodLink "RoundPlansLaw" (68 : Nat) ({ cls := "RoundPlans", name := "at", desc := "(II)I" } : Jvm.MethodName)) ∈ zT := zT_of 427 (by decide +kernel) (by decide +kernel)
theorem wd_428 : (Jvm.Cond.instanceMethod ({ cls := "RoundPlans", name := "at", desc := "(II)I" } : Jvm.MethodName)) ∈ zT := zT_of 428 (by decide +kernel) (by decide +kernel)
theorem wd_429 : (Jvm.Cond.selects "RoundPlans" ({ cls := "RoundPlans", name := "at", desc := "(II)I" } : Jvm.MethodName) ({ cls := "RoundPlans", name := "at", desc := "(II)I" } : Jvm.MethodName)) ∈ zT := zT_of 429 (by decide +kernel) (by decide +kernel)
set_option maxRecDepth 100000 in
theorem wd_430 : zc g_rp_at ∈ zT := zT_of 430 rfl rfl
theorem wd_431 : (Jvm.Cond.methodLink "RoundPlans" (156 : Nat) ({ cls := "RoundPlans$Found", name := "hasVehicle", desc := "(I)Z" } : Jvm.MethodName)) ∈ zT := zT_of 431 (by decide +kernel) (by decide +kernel)
theorem wd_432 : (Jvm.Cond.instanceMethod ({ cls := "RoundPlans$Found", name := "hasVehicle", desc := "(I)Z" } : Jvm.MethodName)) ∈ zT := zT_of 432 (by decide +kernel) (by decide +kernel)
theorem wd_433 : (Jvm.Cond.selects "RoundPlans$Found" ({ cls := "RoundPlans$Found", name := "hasVehicle", desc := "(I)Z" } : Jvm.MethodName) ({ cls := "RoundPlans$Found", name := "hasVehicle", desc := "(I)Z" } : Jvm.MethodName)) ∈ zT := zT_of 433 (by decide +kernel) (by decide +kernel)
set_option maxRecDepth 100000 in
theorem wd_434 : zc g_fd_hasVehicle ∈ zT := zT_of 434 rfl rfl
theorem wd_435 : (Jvm.Cond.methodLink "RoundPlansLaw" (73 : Nat) ({ cls := "RoundPlans", name := "begun", desc := "(I)I" } : Jvm.MethodName)) ∈ zT := zT_of 435 (by decide +kernel) (by decide +kernel)
theorem wd_436 : (Jvm.Cond.instanceMethod ({ cls := "RoundPlans", name := "begun", desc := "(I)I" } : Jvm.MethodName)) ∈ zT := zT_of 436 (by decide +kernel) (by decide +kernel)
theorem wd_437 : (Jvm.Cond.selects "RoundPlans" ({ cls := "RoundPlans", name := "begun", desc := "(I)I" } : Jvm.MethodName) ({ cls := "RoundPlans", name := "begun", desc := "(I)I" } : Jvm.MethodName)) ∈ zT := zT_of 437 (by decide +kernel) (by decide +kernel)
set_option maxRecDepth 100000 in
theorem wd_438 : zc g_rp_begun ∈ zT := zT_of 438 rfl rfl
theorem wd_439 : (Jvm.Cond.methodLink "RoundPlansLaw" (77 : Nat) ({ cls := "RoundPlans", name := "back", desc := "(I)I" } : Jvm.MethodName)) ∈ zT := zT_of 439 (by decide +kernel) (by decide +kernel)
theorem wd_440 : (Jvm.Cond.instanceMethod ({ cls := "RoundPlans", name := "back", desc := "(I)I" } : Jvm.MethodName)) ∈ zT := zT_of 440 (by decide +kernel) (by decide +kernel)
theorem wd_441 : (Jvm.Cond.selects "RoundPlans" ({ cls := "RoundPlans", name := "back", desc := "(I)I" } : Jvm.MethodName) ({ cls := "RoundPlans", name := "back", desc := "(I)I" } : Jvm.MethodName)) ∈ zT := zT_of 441 (by decide +kernel) (by decide +kernel)
set_option maxRecDepth 100000 in
theorem wd_442 : zc g_rp_back ∈ zT := zT_of 442 rfl rfl
theorem wd_443 : (Jvm.Cond.methodLink "RoundPlansLaw" (81 : Nat) ({ cls := "RoundPlans", name := "saved", desc := "(I)J" } : Jvm.MethodName)) ∈ zT := zT_of 443 (by decide +kernel) (by decide +kernel)
theorem wd_444 : (Jvm.Cond.instanceMethod ({ cls := "RoundPlans", name := "saved", desc := "(I)J" } : Jvm.MethodName)) ∈ zT := zT_of 444 (by decide +kernel) (by decide +kernel)
theorem wd_445 : (Jvm.Cond.selects "RoundPlans" ({ cls := "RoundPlans", name := "saved", desc := "(I)J" } : Jvm.MethodName) ({ cls := "RoundPlans", name := "saved", desc := "(I)J" } : Jvm.MethodName)) ∈ zT := zT_of 445 (by decide +kernel) (by decide +kernel)
set_option maxRecDepth 100000 in
theorem wd_446 : zc g_rp_saved ∈ zT := zT_of 446 rfl rfl
theorem wd_447 : (Jvm.Cond.constantLong "RoundPlans" (169 : Nat) (-1 : Int64)) ∈ zT := zT_of 447 (by decide +kernel) (by decide +kernel)
theorem wd_448 : (Jvm.Cond.classLink "RoundPlansLaw" (10 : Nat) "RoundPlansModel") ∈ zT := zT_of 448 (by decide +kernel) (by decide +kernel)
theorem wd_449 : (Jvm.Cond.instantiable "RoundPlansModel" (28 : Nat)) ∈ zT := zT_of 449 (by decide +kernel) (by decide +kernel)
theorem wd_450 : (Jvm.Cond.methodLink "RoundPlansLaw" (12 : Nat) ({ cls := "RoundPlansModel", name := "<init>", desc := "()V" } : Jvm.MethodName)) ∈ zT := zT_of 450 (by decide +kernel) (by decide +kernel)
theorem wd_451 : (Jvm.Cond.instanceMethod ({ cls := "RoundPlansModel", name := "<init>", desc := "()V" } : Jvm.MethodName)) ∈ zT := zT_of 451 (by decide +kernel) (by decide +kernel)
set_option maxRecDepth 100000 in
theorem wd_452 : zc g_md_init ∈ zT := zT_of 452 rfl rfl
theorem wd_453 : (Jvm.Cond.methodLink "RoundPlansModel" (1 : Nat) ({ cls := "java/lang/Object", name := "<init>", desc := "()V" } : Jvm.MethodName)) ∈ zT := zT_of 453 (by decide +kernel) (by decide +kernel)
theorem wd_454 : (Jvm.Cond.fieldLink "RoundPlansModel" (78 : Nat) "RoundPlansModel" "stops" "I") ∈ zT := zT_of 454 (by decide +kernel) (by decide +kernel)
theorem wd_455 : (Jvm.Cond.fieldLink "RoundPlansModel" (7 : Nat) "RoundPlansModel" "loads" "[I") ∈ zT := zT_of 455 (by decide +kernel) (by decide +kernel)
theorem wd_456 : (Jvm.Cond.fieldLink "RoundPlansModel" (13 : Nat) "RoundPlansModel" "firsts" "[I") ∈ zT := zT_of 456 (by decide +kernel) (by decide +kernel)
theorem wd_457 : (Jvm.Cond.fieldLink "RoundPlansModel" (16 : Nat) "RoundPlansModel" "lasts" "[I") ∈ zT := zT_of 457 (by decide +kernel) (by decide +kernel)
theorem wd_458 : (Jvm.Cond.fieldLink "RoundPlansModel" (19 : Nat) "RoundPlansModel" "services" "[I") ∈ zT := zT_of 458 (by decide +kernel) (by decide +kernel)
theorem wd_459 : (Jvm.Cond.fieldLink "RoundPlansModel" (22 : Nat) "RoundPlansModel" "penalties" "[J") ∈ zT := zT_of 459 (by decide +kernel) (by decide +kernel)
theorem wd_460 : (Jvm.Cond.fieldLink "RoundPlansModel" (26 : Nat) "RoundPlansModel" "fixedTo" "[I") ∈ zT := zT_of 460 (by decide +kernel) (by decide +kernel)
theorem wd_461 : (Jvm.Cond.fieldLink "RoundPlansModel" (29 : Nat) "RoundPlansModel" "apart" "[Z") ∈ zT := zT_of 461 (by decide +kernel) (by decide +kernel)
theorem wd_462 : (Jvm.Cond.fieldLink "RoundPlansModel" (33 : Nat) "RoundPlansModel" "before" "[Z") ∈ zT := zT_of 462 (by decide +kernel) (by decide +kernel)
theorem wd_463 : (Jvm.Cond.fieldLink "RoundPlansModel" (99 : Nat) "RoundPlansModel" "vehicles" "I") ∈ zT := zT_of 463 (by decide +kernel) (by decide +kernel)
theorem wd_464 : (Jvm.Cond.fieldLink "RoundPlansModel" (36 : Nat) "RoundPlansModel" "mosts" "[I") ∈ zT := zT_of 464 (by decide +kernel) (by decide +kernel)
theorem wd_465 : (Jvm.Cond.fieldLink "RoundPlansModel" (39 : Nat) "RoundPlansModel" "leaves" "[I") ∈ zT := zT_of 465 (by decide +kernel) (by decide +kernel)
theorem wd_466 : (Jvm.Cond.fieldLink "RoundPlansModel" (42 : Nat) "RoundPlansModel" "backs" "[I") ∈ zT := zT_of 466 (by decide +kernel) (by decide +kernel)
theorem wd_467 : (Jvm.Cond.fieldLink "RoundPlansModel" (45 : Nat) "RoundPlansModel" "rates" "[I") ∈ zT := zT_of 467 (by decide +kernel) (by decide +kernel)
theorem wd_468 : (Jvm.Cond.fieldLink "RoundPlansModel" (48 : Nat) "RoundPlansModel" "ways" "[I") ∈ zT := zT_of 468 (by decide +kernel) (by decide +kernel)
theorem wd_469 : (Jvm.Cond.fieldLink "RoundPlansModel" (51 : Nat) "RoundPlansModel" "early" "[I") ∈ zT := zT_of 469 (by decide +kernel) (by decide +kernel)
theorem wd_470 : (Jvm.Cond.fieldLink "RoundPlansModel" (54 : Nat) "RoundPlansModel" "rows" "[I") ∈ zT := zT_of 470 (by decide +kernel) (by decide +kernel)
theorem wd_471 : (Jvm.Cond.fieldLink "RoundPlansModel" (57 : Nat) "RoundPlansModel" "trial" "[I") ∈ zT := zT_of 471 (by decide +kernel) (by decide +kernel)
theorem wd_472 : (Jvm.Cond.fieldLink "RoundPlansModel" (159 : Nat) "RoundPlansModel" "isFound" "Z") ∈ zT := zT_of 472 (by decide +kernel) (by decide +kernel)
theorem wd_473 : (Jvm.Cond.fieldLink "RoundPlansModel" (163 : Nat) "RoundPlansModel" "foundStops" "I") ∈ zT := zT_of 473 (by decide +kernel) (by decide +kernel)
theorem wd_474 : (Jvm.Cond.fieldLink "RoundPlansModel" (166 : Nat) "RoundPlansModel" "foundVehicles" "I") ∈ zT := zT_of 474 (by decide +kernel) (by decide +kernel)
theorem wd_475 : (Jvm.Cond.fieldLink "RoundPlansModel" (155 : Nat) "RoundPlansModel" "foundCost" "J") ∈ zT := zT_of 475 (by decide +kernel) (by decide +kernel)
theorem wd_476 : (Jvm.Cond.fieldLink "RoundPlansModel" (60 : Nat) "RoundPlansModel" "vehicleOf" "[I") ∈ zT := zT_of 476 (by decide +kernel) (by decide +kernel)
theorem wd_477 : (Jvm.Cond.fieldLink "RoundPlansModel" (63 : Nat) "RoundPlansModel" "begins" "[I") ∈ zT := zT_of 477 (by decide +kernel) (by decide +kernel)
theorem wd_478 : (Jvm.Cond.fieldLink "RoundPlansModel" (66 : Nat) "RoundPlansModel" "rounds" "[I") ∈ zT := zT_of 478 (by decide +kernel) (by decide +kernel)
theorem wd_479 : (Jvm.Cond.fieldLink "RoundPlansModel" (69 : Nat) "RoundPlansModel" "counts" "[I") ∈ zT := zT_of 479 (by decide +kernel) (by decide +kernel)
theorem wd_480 : (Jvm.Cond.fieldLink "RoundPlansModel" (72 : Nat) "RoundPlansModel" "backAt" "[I") ∈ zT := zT_of 480 (by decide +kernel) (by decide +kernel)
theorem wd_481 : (Jvm.Cond.fieldLink "RoundPlansModel" (75 : Nat) "RoundPlansModel" "saves" "[J") ∈ zT := zT_of 481 (by decide +kernel) (by decide +kernel)
theorem wd_539 : (Jvm.Cond.arrayClass Jvm.ClassFile.FieldType.boolean) ∈ zT := zT_of 539 (by decide +kernel) (by decide +kernel)
theorem wd_540 : (Jvm.Cond.methodLink "RoundPlansLaw" (17 : Nat) ({ cls := "RoundPlansModel", name := "stop", desc := "(I)I" } : Jvm.MethodName)) ∈ zT := zT_of 540 (by decide +kernel) (by decide +kernel)
theorem wd_541 : (Jvm.Cond.instanceMethod ({ cls := "RoundPlansModel", name := "stop", desc := "(I)I" } : Jvm.MethodName)) ∈ zT := zT_of 541 (by decide +kernel) (by decide +kernel)
theorem wd_542 : (Jvm.Cond.selects "RoundPlansModel" ({ cls := "RoundPlansModel", name := "stop", desc := "(I)I" } : Jvm.MethodName) ({ cls := "RoundPlansModel", name := "stop", desc := "(I)I" } : Jvm.MethodName)) ∈ zT := zT_of 542 (by decide +kernel) (by decide +kernel)
set_option maxRecDepth 100000 in
theorem wd_543 : zc g_md_stop ∈ zT := zT_of 543 rfl rfl
theorem wd_544 : (Jvm.Cond.constantLong "RoundPlansModel" (86 : Nat) (100000 : Int64)) ∈ zT := zT_of 544 (by decide +kernel) (by decide +kernel)
theorem wd_545 : (Jvm.Cond.methodLink "RoundPlansModel" (88 : Nat) ({ cls := "RoundPlansModel", name := "isIn", desc := "(JJJ)Z" } : Jvm.MethodName)) ∈ zT := zT_of 545 (by decide +kernel) (by decide +kernel)
theorem wd_546 : (Jvm.Cond.static ({ cls := "RoundPlansModel", name := "isIn", desc := "(JJJ)Z" } : Jvm.MethodName)) ∈ zT := zT_of 546 (by decide +kernel) (by decide +kernel)
set_option maxRecDepth 100000 in
theorem wd_547 : zc g_md_isIn ∈ zT := zT_of 547 rfl rfl
theorem wd_548 : (Jvm.Cond.constant "RoundPlansModel" (92 : Nat) (86399 : Int32)) ∈ zT := zT_of 548 (by decide +kernel) (by decide +kernel)
theorem wd_549 : (Jvm.Cond.methodLink "RoundPlansLaw" (22 : Nat) ({ cls := "RoundPlansModel", name := "hours", desc := "(IIII)Z" } : Jvm.MethodName)) ∈ zT := zT_of 549 (by decide +kernel) (by decide +kernel)
theorem wd_550 : (Jvm.Cond.instanceMethod ({ cls := "RoundPlansModel", name := "hours", desc := "(IIII)Z" } : Jvm.MethodName)) ∈ zT := zT_of 550 (by decide +kernel) (by decide +kernel)
theorem wd_551 : (Jvm.Cond.selects "RoundPlansModel" ({ cls := "RoundPlansModel", name := "hours", desc := "(IIII)Z" } : Jvm.MethodName) ({ cls := "RoundPlansModel", name := "hours", desc := "(IIII)Z" } : Jvm.MethodName)) ∈ zT := zT_of 551 (by decide +kernel) (by decide +kernel)
set_option maxRecDepth 100000 in
theorem wd_552 : zc g_md_hours ∈ zT := zT_of 552 rfl rfl
theorem wd_553 : (Jvm.Cond.methodLink "RoundPlansModel" (82 : Nat) ({ cls := "RoundPlansModel", name := "isStop", desc := "(I)Z" } : Jvm.MethodName)) ∈ zT := zT_of 553 (by decide +kernel) (by decide +kernel)
theorem wd_555 : (Jvm.Cond.instanceMethod ({ cls := "RoundPlansModel", name := "isStop", desc := "(I)Z" } : Jvm.MethodName)) ∈ zT := zT_of 555 (by decide +kernel) (by decide +kernel)
set_option maxRecDepth 100000 in
theorem wd_556 : zc g_md_isStop ∈ zT := zT_of 556 rfl rfl
theorem wd_557 : (Jvm.Cond.constantLong "RoundPlansModel" (93 : Nat) (86399 : Int64)) ∈ zT := zT_of 557 (by decide +kernel) (by decide +kernel)
theorem wd_558 : (Jvm.Cond.constantLong "RoundPlansModel" (95 : Nat) (10000 : Int64)) ∈ zT := zT_of 558 (by decide +kernel) (by decide +kernel)
theorem wd_559 : (Jvm.Cond.methodLink "RoundPlansLaw" (29 : Nat) ({ cls := "RoundPlansModel", name := "penalty", desc := "(IJ)Z" } : Jvm.MethodName)) ∈ zT := zT_of 559 (by decide +kernel) (by decide +kernel)
theorem wd_560 : (Jvm.Cond.instanceMethod ({ cls := "RoundPlansModel", name := "penalty", desc := "(IJ)Z" } : Jvm.MethodName)) ∈ zT := zT_of 560 (by decide +kernel) (by decide +kernel)
theorem wd_561 : (Jvm.Cond.selects "RoundPlansModel" ({ cls := "RoundPlansModel", name := "penalty", desc := "(IJ)Z" } : Jvm.MethodName) ({ cls := "RoundPlansModel", name := "penalty", desc := "(IJ)Z" } : Jvm.MethodName)) ∈ zT := zT_of 561 (by decide +kernel) (by decide +kernel)
set_option maxRecDepth 100000 in
theorem wd_562 : zc g_md_penalty ∈ zT := zT_of 562 rfl rfl
theorem wd_563 : (Jvm.Cond.constantLong "RoundPlansModel" (97 : Nat) (1000000000 : Int64)) ∈ zT := zT_of 563 (by decide +kernel) (by decide +kernel)
theorem wd_564 : (Jvm.Cond.methodLink "RoundPlansLaw" (34 : Nat) ({ cls := "RoundPlansModel", name := "vehicle", desc := "(IIII)I" } : Jvm.MethodName)) ∈ zT := zT_of 564 (by decide +kernel) (by decide +kernel)
theorem wd_565 : (Jvm.Cond.instanceMethod ({ cls := "RoundPlansModel", name := "vehicle", desc := "(IIII)I" } : Jvm.MethodName)) ∈ zT := zT_of 565 (by decide +kernel) (by decide +kernel)
theorem wd_566 : (Jvm.Cond.selects "RoundPlansModel" ({ cls := "RoundPlansModel", name := "vehicle", desc := "(IIII)I" } : Jvm.MethodName) ({ cls := "RoundPlansModel", name := "vehicle", desc := "(IIII)I" } : Jvm.MethodName)) ∈ zT := zT_of 566 (by decide +kernel) (by decide +kernel)
set_option maxRecDepth 100000 in
theorem wd_567 : zc g_md_vehicle ∈ zT := zT_of 567 rfl rfl
theorem wd_568 : (Jvm.Cond.constantLong "RoundPlansModel" (102 : Nat) (1000000 : Int64)) ∈ zT := zT_of 568 (by decide +kernel) (by decide +kernel)
theorem wd_569 : (Jvm.Cond.constantLong "RoundPlansModel" (104 : Nat) (1000 : Int64)) ∈ zT := zT_of 569 (by decide +kernel) (by decide +kernel)
theorem wd_570 : (Jvm.Cond.methodLink "RoundPlansLaw" (39 : Nat) ({ cls := "RoundPlansModel", name := "way", desc := "(III)Z" } : Jvm.MethodName)) ∈ zT := zT_of 570 (by decide +kernel) (by decide +kernel)
theorem wd_571 : (Jvm.Cond.instanceMethod ({ cls := "RoundPlansModel", name := "way", desc := "(III)Z" } : Jvm.MethodName)) ∈ zT := zT_of 571 (by decide +kernel) (by decide +kernel)
theorem wd_572 : (Jvm.Cond.selects "RoundPlansModel" ({ cls := "RoundPlansModel", name := "way", desc := "(III)Z" } : Jvm.MethodName) ({ cls := "RoundPlansModel", name := "way", desc := "(III)Z" } : Jvm.MethodName)) ∈ zT := zT_of 572 (by decide +kernel) (by decide +kernel)
set_option maxRecDepth 100000 in
theorem wd_573 : zc g_md_way ∈ zT := zT_of 573 rfl rfl
theorem wd_574 : (Jvm.Cond.constantLong "RoundPlansModel" (106 : Nat) (7 : Int64)) ∈ zT := zT_of 574 (by decide +kernel) (by decide +kernel)
theorem wd_575 : (Jvm.Cond.constantLong "RoundPlansModel" (108 : Nat) (50000 : Int64)) ∈ zT := zT_of 575 (by decide +kernel) (by decide +kernel)
theorem wd_576 : (Jvm.Cond.methodLink "RoundPlansLaw" (44 : Nat) ({ cls := "RoundPlansModel", name := "fixed", desc := "(II)Z" } : Jvm.MethodName)) ∈ zT := zT_of 576 (by decide +kernel) (by decide +kernel)
theorem wd_577 : (Jvm.Cond.instanceMethod ({ cls := "RoundPlansModel", name := "fixed", desc := "(II)Z" } : Jvm.MethodName)) ∈ zT := zT_of 577 (by decide +kernel) (by decide +kernel)
theorem wd_578 : (Jvm.Cond.selects "RoundPlansModel" ({ cls := "RoundPlansModel", name := "fixed", desc := "(II)Z" } : Jvm.MethodName) ({ cls := "RoundPlansModel", name := "fixed", desc := "(II)Z" } : Jvm.MethodName)) ∈ zT := zT_of 578 (by decide +kernel) (by decide +kernel)
set_option maxRecDepth 100000 in
theorem wd_579 : zc g_md_fixed ∈ zT := zT_of 579 rfl rfl
theorem wd_580 : (Jvm.Cond.methodLink "RoundPlansLaw" (49 : Nat) ({ cls := "RoundPlansModel", name := "apart", desc := "(IIZ)Z" } : Jvm.MethodName)) ∈ zT := zT_of 580 (by decide +kernel) (by decide +kernel)
theorem wd_581 : (Jvm.Cond.instanceMethod ({ cls := "RoundPlansModel", name := "apart", desc := "(IIZ)Z" } : Jvm.MethodName)) ∈ zT := zT_of 581 (by decide +kernel) (by decide +kernel)
theorem wd_582 : (Jvm.Cond.selects "RoundPlansModel" ({ cls := "RoundPlansModel", name := "apart", desc := "(IIZ)Z" } : Jvm.MethodName) ({ cls := "RoundPlansModel", name := "apart", desc := "(IIZ)Z" } : Jvm.MethodName)) ∈ zT := zT_of 582 (by decide +kernel) (by decide +kernel)
set_option maxRecDepth 100000 in
theorem wd_583 : zc g_md_apart ∈ zT := zT_of 583 rfl rfl
theorem wd_584 : (Jvm.Cond.methodLink "RoundPlansModel" (110 : Nat) ({ cls := "RoundPlansModel", name := "arePair", desc := "(II)Z" } : Jvm.MethodName)) ∈ zT := zT_of 584 (by decide +kernel) (by decide +kernel)
theorem wd_586 : (Jvm.Cond.instanceMethod ({ cls := "RoundPlansModel", name := "arePair", desc := "(II)Z" } : Jvm.MethodName)) ∈ zT := zT_of 586 (by decide +kernel) (by decide +kernel)
set_option maxRecDepth 100000 in
theorem wd_587 : zc g_md_arePair ∈ zT := zT_of 587 rfl rfl
theorem wd_588 : (Jvm.Cond.methodLink "RoundPlansLaw" (53 : Nat) ({ cls := "RoundPlansModel", name := "before", desc := "(II)Z" } : Jvm.MethodName)) ∈ zT := zT_of 588 (by decide +kernel) (by decide +kernel)
theorem wd_589 : (Jvm.Cond.instanceMethod ({ cls := "RoundPlansModel", name := "before", desc := "(II)Z" } : Jvm.MethodName)) ∈ zT := zT_of 589 (by decide +kernel) (by decide +kernel)
theorem wd_590 : (Jvm.Cond.selects "RoundPlansModel" ({ cls := "RoundPlansModel", name := "before", desc := "(II)Z" } : Jvm.MethodName) ({ cls := "RoundPlansModel", name := "before", desc := "(II)Z" } : Jvm.MethodName)) ∈ zT := zT_of 590 (by decide +kernel) (by decide +kernel)
set_option maxRecDepth 100000 in
theorem wd_591 : zc g_md_before ∈ zT := zT_of 591 rfl rfl
theorem wd_592 : (Jvm.Cond.methodLink "RoundPlansModel" (114 : Nat) ({ cls := "RoundPlansModel", name := "leads", desc := "(II)Z" } : Jvm.MethodName)) ∈ zT := zT_of 592 (by decide +kernel) (by decide +kernel)
theorem wd_594 : (Jvm.Cond.instanceMethod ({ cls := "RoundPlansModel", name := "leads", desc := "(II)Z" } : Jvm.MethodName)) ∈ zT := zT_of 594 (by decide +kernel) (by decide +kernel)
set_option maxRecDepth 100000 in
theorem wd_595 : zc g_md_leads ∈ zT := zT_of 595 rfl rfl
theorem wd_596 : (Jvm.Cond.methodLink "RoundPlansLaw" (58 : Nat) ({ cls := "RoundPlansModel", name := "run", desc := "()I" } : Jvm.MethodName)) ∈ zT := zT_of 596 (by decide +kernel) (by decide +kernel)
theorem wd_597 : (Jvm.Cond.instanceMethod ({ cls := "RoundPlansModel", name := "run", desc := "()I" } : Jvm.MethodName)) ∈ zT := zT_of 597 (by decide +kernel) (by decide +kernel)
theorem wd_598 : (Jvm.Cond.selects "RoundPlansModel" ({ cls := "RoundPlansModel", name := "run", desc := "()I" } : Jvm.MethodName) ({ cls := "RoundPlansModel", name := "run", desc := "()I" } : Jvm.MethodName)) ∈ zT := zT_of 598 (by decide +kernel) (by decide +kernel)
set_option maxRecDepth 100000 in
theorem wd_599 : zc g_md_run ∈ zT := zT_of 599 rfl rfl
theorem wd_600 : (Jvm.Cond.methodLink "RoundPlansModel" (148 : Nat) ({ cls := "RoundPlansModel", name := "driveAll", desc := "(I)V" } : Jvm.MethodName)) ∈ zT := zT_of 600 (by decide +kernel) (by decide +kernel)
theorem wd_602 : (Jvm.Cond.instanceMethod ({ cls := "RoundPlansModel", name := "driveAll", desc := "(I)V" } : Jvm.MethodName)) ∈ zT := zT_of 602 (by decide +kernel) (by decide +kernel)
set_option maxRecDepth 100000 in
theorem wd_603 : zc g_md_driveAll ∈ zT := zT_of 603 rfl rfl
theorem wd_604 : (Jvm.Cond.methodLink "RoundPlansModel" (117 : Nat) ({ cls := "RoundPlansModel", name := "mayFollow", desc := "(III)Z" } : Jvm.MethodName)) ∈ zT := zT_of 604 (by decide +kernel) (by decide +kernel)
theorem wd_606 : (Jvm.Cond.instanceMethod ({ cls := "RoundPlansModel", name := "mayFollow", desc := "(III)Z" } : Jvm.MethodName)) ∈ zT := zT_of 606 (by decide +kernel) (by decide +kernel)
set_option maxRecDepth 100000 in
theorem wd_607 : zc g_md_mayFollow ∈ zT := zT_of 607 rfl rfl
theorem wd_608 : (Jvm.Cond.methodLink "RoundPlansModel" (121 : Nat) ({ cls := "RoundPlansModel", name := "keep", desc := "(II)V" } : Jvm.MethodName)) ∈ zT := zT_of 608 (by decide +kernel) (by decide +kernel)
theorem wd_610 : (Jvm.Cond.instanceMethod ({ cls := "RoundPlansModel", name := "keep", desc := "(II)V" } : Jvm.MethodName)) ∈ zT := zT_of 610 (by decide +kernel) (by decide +kernel)
set_option maxRecDepth 100000 in
theorem wd_611 : zc g_md_keep ∈ zT := zT_of 611 rfl rfl
theorem wd_612 : (Jvm.Cond.methodLink "RoundPlansModel" (125 : Nat) ({ cls := "RoundPlansModel", name := "drive", desc := "(II)I" } : Jvm.MethodName)) ∈ zT := zT_of 612 (by decide +kernel) (by decide +kernel)
theorem wd_614 : (Jvm.Cond.instanceMethod ({ cls := "RoundPlansModel", name := "drive", desc := "(II)I" } : Jvm.MethodName)) ∈ zT := zT_of 614 (by decide +kernel) (by decide +kernel)
set_option maxRecDepth 100000 in
theorem wd_615 : zc g_md_drive ∈ zT := zT_of 615 rfl rfl
theorem wd_616 : (Jvm.Cond.methodLink "RoundPlansModel" (129 : Nat) ({ cls := "RoundPlansModel", name := "setOf", desc := "(I)I" } : Jvm.MethodName)) ∈ zT := zT_of 616 (by decide +kernel) (by decide +kernel)
theorem wd_618 : (Jvm.Cond.instanceMethod ({ cls := "RoundPlansModel", name := "setOf", desc := "(I)I" } : Jvm.MethodName)) ∈ zT := zT_of 618 (by decide +kernel) (by decide +kernel)
set_option maxRecDepth 100000 in
theorem wd_619 : zc g_md_setOf ∈ zT := zT_of 619 rfl rfl
theorem wd_620 : (Jvm.Cond.methodLink "RoundPlansModel" (133 : Nat) ({ cls := "RoundPlansModel", name := "rowOf", desc := "(I)I" } : Jvm.MethodName)) ∈ zT := zT_of 620 (by decide +kernel) (by decide +kernel)
theorem wd_622 : (Jvm.Cond.instanceMethod ({ cls := "RoundPlansModel", name := "rowOf", desc := "(I)I" } : Jvm.MethodName)) ∈ zT := zT_of 622 (by decide +kernel) (by decide +kernel)
set_option maxRecDepth 100000 in
theorem wd_623 : zc g_md_rowOf ∈ zT := zT_of 623 rfl rfl
theorem wd_624 : (Jvm.Cond.methodLink "RoundPlansModel" (152 : Nat) ({ cls := "RoundPlansModel", name := "bestPlan", desc := "(I)I" } : Jvm.MethodName)) ∈ zT := zT_of 624 (by decide +kernel) (by decide +kernel)
theorem wd_626 : (Jvm.Cond.instanceMethod ({ cls := "RoundPlansModel", name := "bestPlan", desc := "(I)I" } : Jvm.MethodName)) ∈ zT := zT_of 626 (by decide +kernel) (by decide +kernel)
set_option maxRecDepth 100000 in
theorem wd_627 : zc g_md_bestPlan ∈ zT := zT_of 627 rfl rfl
theorem wd_628 : (Jvm.Cond.methodLink "RoundPlansModel" (144 : Nat) ({ cls := "RoundPlansModel", name := "costOf", desc := "(II)J" } : Jvm.MethodName)) ∈ zT := zT_of 628 (by decide +kernel) (by decide +kernel)
theorem wd_630 : (Jvm.Cond.instanceMethod ({ cls := "RoundPlansModel", name := "costOf", desc := "(II)J" } : Jvm.MethodName)) ∈ zT := zT_of 630 (by decide +kernel) (by decide +kernel)
set_option maxRecDepth 100000 in
theorem wd_631 : zc g_md_costOf ∈ zT := zT_of 631 rfl rfl
theorem wd_632 : (Jvm.Cond.methodLink "RoundPlansModel" (136 : Nat) ({ cls := "RoundPlansModel", name := "digit", desc := "(II)I" } : Jvm.MethodName)) ∈ zT := zT_of 632 (by decide +kernel) (by decide +kernel)
theorem wd_633 : (Jvm.Cond.static ({ cls := "RoundPlansModel", name := "digit", desc := "(II)I" } : Jvm.MethodName)) ∈ zT := zT_of 633 (by decide +kernel) (by decide +kernel)
set_option maxRecDepth 100000 in
theorem wd_634 : zc g_md_digit ∈ zT := zT_of 634 rfl rfl
theorem wd_635 : (Jvm.Cond.constantLong "RoundPlansModel" (139 : Nat) (-1 : Int64)) ∈ zT := zT_of 635 (by decide +kernel) (by decide +kernel)
theorem wd_636 : (Jvm.Cond.methodLink "RoundPlansModel" (141 : Nat) ({ cls := "RoundPlansModel", name := "setIn", desc := "(II)I" } : Jvm.MethodName)) ∈ zT := zT_of 636 (by decide +kernel) (by decide +kernel)
theorem wd_638 : (Jvm.Cond.instanceMethod ({ cls := "RoundPlansModel", name := "setIn", desc := "(II)I" } : Jvm.MethodName)) ∈ zT := zT_of 638 (by decide +kernel) (by decide +kernel)
set_option maxRecDepth 100000 in
theorem wd_639 : zc g_md_setIn ∈ zT := zT_of 639 rfl rfl
theorem wd_640 : (Jvm.Cond.methodLink "RoundPlansModel" (169 : Nat) ({ cls := "RoundPlansModel", name := "tellRound", desc := "(II)V" } : Jvm.MethodName)) ∈ zT := zT_of 640 (by decide +kernel) (by decide +kernel)
theorem wd_642 : (Jvm.Cond.instanceMethod ({ cls := "RoundPlansModel", name := "tellRound", desc := "(II)V" } : Jvm.MethodName)) ∈ zT := zT_of 642 (by decide +kernel) (by decide +kernel)
set_option maxRecDepth 100000 in
theorem wd_643 : zc g_md_tellRound ∈ zT := zT_of 643 rfl rfl
theorem wd_644 : (Jvm.Cond.methodLink "RoundPlansLaw" (63 : Nat) ({ cls := "RoundPlansModel", name := "cost", desc := "()J" } : Jvm.MethodName)) ∈ zT := zT_of 644 (by decide +kernel) (by decide +kernel)
theorem wd_645 : (Jvm.Cond.instanceMethod ({ cls := "RoundPlansModel", name := "cost", desc := "()J" } : Jvm.MethodName)) ∈ zT := zT_of 645 (by decide +kernel) (by decide +kernel)
theorem wd_646 : (Jvm.Cond.selects "RoundPlansModel" ({ cls := "RoundPlansModel", name := "cost", desc := "()J" } : Jvm.MethodName) ({ cls := "RoundPlansModel", name := "cost", desc := "()J" } : Jvm.MethodName)) ∈ zT := zT_of 646 (by decide +kernel) (by decide +kernel)
set_option maxRecDepth 100000 in
theorem wd_647 : zc g_md_cost ∈ zT := zT_of 647 rfl rfl
theorem wd_648 : (Jvm.Cond.methodLink "RoundPlansLaw" (67 : Nat) ({ cls := "RoundPlansModel", name := "vehicleOf", desc := "(I)I" } : Jvm.MethodName)) ∈ zT := zT_of 648 (by decide +kernel) (by decide +kernel)
theorem wd_649 : (Jvm.Cond.instanceMethod ({ cls := "RoundPlansModel", name := "vehicleOf", desc := "(I)I" } : Jvm.MethodName)) ∈ zT := zT_of 649 (by decide +kernel) (by decide +kernel)
theorem wd_650 : (Jvm.Cond.selects "RoundPlansModel" ({ cls := "RoundPlansModel", name := "vehicleOf", desc := "(I)I" } : Jvm.MethodName) ({ cls := "RoundPlansModel", name := "vehicleOf", desc := "(I)I" } : Jvm.MethodName)) ∈ zT := zT_of 650 (by decide +kernel) (by decide +kernel)
set_option maxRecDepth 100000 in
theorem wd_651 : zc g_md_vehicleOf ∈ zT := zT_of 651 rfl rfl
theorem wd_652 : (Jvm.Cond.methodLink "RoundPlansLaw" (72 : Nat) ({ cls := "RoundPlansModel", name := "at", desc := "(II)I" } : Jvm.MethodName)) ∈ zT := zT_of 652 (by decide +kernel) (by decide +kernel)
theorem wd_653 : (Jvm.Cond.instanceMethod ({ cls := "RoundPlansModel", name := "at", desc := "(II)I" } : Jvm.MethodName)) ∈ zT := zT_of 653 (by decide +kernel) (by decide +kernel)
theorem wd_654 : (Jvm.Cond.selects "RoundPlansModel" ({ cls := "RoundPlansModel", name := "at", desc := "(II)I" } : Jvm.MethodName) ({ cls := "RoundPlansModel", name := "at", desc := "(II)I" } : Jvm.MethodName)) ∈ zT := zT_of 654 (by decide +kernel) (by decide +kernel)
set_option maxRecDepth 100000 in
theorem wd_655 : zc g_md_at ∈ zT := zT_of 655 rfl rfl
theorem wd_656 : (Jvm.Cond.methodLink "RoundPlansLaw" (76 : Nat) ({ cls := "RoundPlansModel", name := "begun", desc := "(I)I" } : Jvm.MethodName)) ∈ zT := zT_of 656 (by decide +kernel) (by decide +kernel)
theorem wd_657 : (Jvm.Cond.instanceMethod ({ cls := "RoundPlansModel", name := "begun", desc := "(I)I" } : Jvm.MethodName)) ∈ zT := zT_of 657 (by decide +kernel) (by decide +kernel)
theorem wd_658 : (Jvm.Cond.selects "RoundPlansModel" ({ cls := "RoundPlansModel", name := "begun", desc := "(I)I" } : Jvm.MethodName) ({ cls := "RoundPlansModel", name := "begun", desc := "(I)I" } : Jvm.MethodName)) ∈ zT := zT_of 658 (by decide +kernel) (by decide +kernel)
set_option maxRecDepth 100000 in
theorem wd_659 : zc g_md_begun ∈ zT := zT_of 659 rfl rfl
theorem wd_660 : (Jvm.Cond.methodLink "RoundPlansLaw" (80 : Nat) ({ cls := "RoundPlansModel", name := "back", desc := "(I)I" } : Jvm.MethodName)) ∈ zT := zT_of 660 (by decide +kernel) (by decide +kernel)
theorem wd_661 : (Jvm.Cond.instanceMethod ({ cls := "RoundPlansModel", name := "back", desc := "(I)I" } : Jvm.MethodName)) ∈ zT := zT_of 661 (by decide +kernel) (by decide +kernel)
theorem wd_662 : (Jvm.Cond.selects "RoundPlansModel" ({ cls := "RoundPlansModel", name := "back", desc := "(I)I" } : Jvm.MethodName) ({ cls := "RoundPlansModel", name := "back", desc := "(I)I" } : Jvm.MethodName)) ∈ zT := zT_of 662 (by decide +kernel) (by decide +kernel)
set_option maxRecDepth 100000 in
theorem wd_663 : zc g_md_back ∈ zT := zT_of 663 rfl rfl
theorem wd_664 : (Jvm.Cond.methodLink "RoundPlansLaw" (85 : Nat) ({ cls := "RoundPlansModel", name := "saved", desc := "(I)J" } : Jvm.MethodName)) ∈ zT := zT_of 664 (by decide +kernel) (by decide +kernel)
theorem wd_665 : (Jvm.Cond.instanceMethod ({ cls := "RoundPlansModel", name := "saved", desc := "(I)J" } : Jvm.MethodName)) ∈ zT := zT_of 665 (by decide +kernel) (by decide +kernel)
theorem wd_666 : (Jvm.Cond.selects "RoundPlansModel" ({ cls := "RoundPlansModel", name := "saved", desc := "(I)J" } : Jvm.MethodName) ({ cls := "RoundPlansModel", name := "saved", desc := "(I)J" } : Jvm.MethodName)) ∈ zT := zT_of 666 (by decide +kernel) (by decide +kernel)
set_option maxRecDepth 100000 in
theorem wd_667 : zc g_md_saved ∈ zT := zT_of 667 rfl rfl
theorem wd_668 : (Jvm.Cond.constantLong "RoundPlansLaw" (23 : Nat) (4294967295 : Int64)) ∈ zT := zT_of 668 (by decide +kernel) (by decide +kernel)
theorem ws_0 : Cond.selects "RoundPlans$Rounds" ⟨"RoundPlans$Rounds", "mayHave", "(II)Z"⟩ ⟨"RoundPlans$Rounds", "mayHave", "(II)Z"⟩ ∈ zT := zT_sel 0 (by decide +kernel) (by decide +kernel)
theorem ws_1 : Cond.selects "RoundPlans$Rounds" ⟨"RoundPlans$Rounds", "findBack", "(II)I"⟩ ⟨"RoundPlans$Rounds", "findBack", "(II)I"⟩ ∈ zT := zT_sel 1 (by decide +kernel) (by decide +kernel)
theorem ws_2 : Cond.selects "RoundPlans$Rounds" ⟨"RoundPlans$Rounds", "findReady", "(III)I"⟩ ⟨"RoundPlans$Rounds", "findReady", "(III)I"⟩ ∈ zT := zT_sel 2 (by decide +kernel) (by decide +kernel)
theorem ws_3 : Cond.selects "RoundPlans$Plans" ⟨"RoundPlans$Plans", "codeOfOnes", "(I)J"⟩ ⟨"RoundPlans$Plans", "codeOfOnes", "(I)J"⟩ ∈ zT := zT_sel 3 (by decide +kernel) (by decide +kernel)
theorem ws_4 : Cond.selects "RoundPlans$Plans" ⟨"RoundPlans$Plans", "penaltiesOf", "(I)J"⟩ ⟨"RoundPlans$Plans", "penaltiesOf", "(I)J"⟩ ∈ zT := zT_sel 4 (by decide +kernel) (by decide +kernel)
theorem ws_5 : Cond.selects "RoundPlans$Plans" ⟨"RoundPlans$Plans", "findPrice", "(IIJ)J"⟩ ⟨"RoundPlans$Plans", "findPrice", "(IIJ)J"⟩ ∈ zT := zT_sel 5 (by decide +kernel) (by decide +kernel)
theorem ws_6 : Cond.selects "RoundPlans$Plans" ⟨"RoundPlans$Plans", "addRounds", "(II)V"⟩ ⟨"RoundPlans$Plans", "addRounds", "(II)V"⟩ ∈ zT := zT_sel 6 (by decide +kernel) (by decide +kernel)
theorem ws_7 : Cond.selects "RoundPlans$Plans" ⟨"RoundPlans$Plans", "leastWith", "(II)J"⟩ ⟨"RoundPlans$Plans", "leastWith", "(II)J"⟩ ∈ zT := zT_sel 7 (by decide +kernel) (by decide +kernel)
theorem ws_8 : Cond.selects "RoundPlans$Rounds" ⟨"RoundPlans$Rounds", "findLatest", "(II)V"⟩ ⟨"RoundPlans$Rounds", "findLatest", "(II)V"⟩ ∈ zT := zT_sel 8 (by decide +kernel) (by decide +kernel)
theorem ws_9 : Cond.selects "RoundPlans$Rounds" ⟨"RoundPlans$Rounds", "findLatestAt", "(III)I"⟩ ⟨"RoundPlans$Rounds", "findLatestAt", "(III)I"⟩ ∈ zT := zT_sel 9 (by decide +kernel) (by decide +kernel)
theorem ws_10 : Cond.selects "RoundPlans$Rounds" ⟨"RoundPlans$Rounds", "firstInTime", "(III)I"⟩ ⟨"RoundPlans$Rounds", "firstInTime", "(III)I"⟩ ∈ zT := zT_sel 10 (by decide +kernel) (by decide +kernel)
theorem ws_11 : Cond.selects "RoundPlansModel" ⟨"RoundPlansModel", "isStop", "(I)Z"⟩ ⟨"RoundPlansModel", "isStop", "(I)Z"⟩ ∈ zT := zT_sel 11 (by decide +kernel) (by decide +kernel)
theorem ws_12 : Cond.selects "RoundPlansModel" ⟨"RoundPlansModel", "arePair", "(II)Z"⟩ ⟨"RoundPlansModel", "arePair", "(II)Z"⟩ ∈ zT := zT_sel 12 (by decide +kernel) (by decide +kernel)
theorem ws_13 : Cond.selects "RoundPlansModel" ⟨"RoundPlansModel", "leads", "(II)Z"⟩ ⟨"RoundPlansModel", "leads", "(II)Z"⟩ ∈ zT := zT_sel 13 (by decide +kernel) (by decide +kernel)
theorem ws_14 : Cond.selects "RoundPlansModel" ⟨"RoundPlansModel", "driveAll", "(I)V"⟩ ⟨"RoundPlansModel", "driveAll", "(I)V"⟩ ∈ zT := zT_sel 14 (by decide +kernel) (by decide +kernel)
theorem ws_15 : Cond.selects "RoundPlansModel" ⟨"RoundPlansModel", "mayFollow", "(III)Z"⟩ ⟨"RoundPlansModel", "mayFollow", "(III)Z"⟩ ∈ zT := zT_sel 15 (by decide +kernel) (by decide +kernel)
theorem ws_16 : Cond.selects "RoundPlansModel" ⟨"RoundPlansModel", "keep", "(II)V"⟩ ⟨"RoundPlansModel", "keep", "(II)V"⟩ ∈ zT := zT_sel 16 (by decide +kernel) (by decide +kernel)
theorem ws_17 : Cond.selects "RoundPlansModel" ⟨"RoundPlansModel", "drive", "(II)I"⟩ ⟨"RoundPlansModel", "drive", "(II)I"⟩ ∈ zT := zT_sel 17 (by decide +kernel) (by decide +kernel)
theorem ws_18 : Cond.selects "RoundPlansModel" ⟨"RoundPlansModel", "setOf", "(I)I"⟩ ⟨"RoundPlansModel", "setOf", "(I)I"⟩ ∈ zT := zT_sel 18 (by decide +kernel) (by decide +kernel)
theorem ws_19 : Cond.selects "RoundPlansModel" ⟨"RoundPlansModel", "rowOf", "(I)I"⟩ ⟨"RoundPlansModel", "rowOf", "(I)I"⟩ ∈ zT := zT_sel 19 (by decide +kernel) (by decide +kernel)
theorem ws_20 : Cond.selects "RoundPlansModel" ⟨"RoundPlansModel", "bestPlan", "(I)I"⟩ ⟨"RoundPlansModel", "bestPlan", "(I)I"⟩ ∈ zT := zT_sel 20 (by decide +kernel) (by decide +kernel)
theorem ws_21 : Cond.selects "RoundPlansModel" ⟨"RoundPlansModel", "costOf", "(II)J"⟩ ⟨"RoundPlansModel", "costOf", "(II)J"⟩ ∈ zT := zT_sel 21 (by decide +kernel) (by decide +kernel)
theorem ws_22 : Cond.selects "RoundPlansModel" ⟨"RoundPlansModel", "setIn", "(II)I"⟩ ⟨"RoundPlansModel", "setIn", "(II)I"⟩ ∈ zT := zT_sel 22 (by decide +kernel) (by decide +kernel)
theorem ws_23 : Cond.selects "RoundPlansModel" ⟨"RoundPlansModel", "tellRound", "(II)V"⟩ ⟨"RoundPlansModel", "tellRound", "(II)V"⟩ ∈ zT := zT_sel 23 (by decide +kernel) (by decide +kernel)
end
section
theorem d_rp_init_0 : decode prog_1_method_1_code 0 = .ok (.aload_n 0, 1) := by decide +kernel
theorem d_rp_init_1 : decode prog_1_method_1_code 1 = .ok (.invokespecial 3, 3) := by decide +kernel
theorem d_rp_init_4 : decode prog_1_method_1_code 4 = .ok (.aload_n 0, 1) := by decide +kernel
theorem d_rp_init_5 : decode prog_1_method_1_code 5 = .ok (.new 9, 3) := by decide +kernel
theorem d_rp_init_8 : decode prog_1_method_1_code 8 = .ok (.dup, 1) := by decide +kernel
theorem d_rp_init_9 : decode prog_1_method_1_code 9 = .ok (.invokespecial 11, 3) := by decide +kernel
theorem d_rp_init_12 : decode prog_1_method_1_code 12 = .ok (.putfield 12, 3) := by decide +kernel
theorem d_rp_init_15 : decode prog_1_method_1_code 15 = .ok (.aload_n 0, 1) := by decide +kernel
theorem d_rp_init_16 : decode prog_1_method_1_code 16 = .ok (.new 16, 3) := by decide +kernel
theorem d_rp_init_19 : decode prog_1_method_1_code 19 = .ok (.dup, 1) := by decide +kernel
theorem d_rp_init_20 : decode prog_1_method_1_code 20 = .ok (.aload_n 0, 1) := by decide +kernel
theorem d_rp_init_21 : decode prog_1_method_1_code 21 = .ok (.getfield 12, 3) := by decide +kernel
theorem d_rp_init_24 : decode prog_1_method_1_code 24 = .ok (.invokespecial 18, 3) := by decide +kernel
theorem d_rp_init_27 : decode prog_1_method_1_code 27 = .ok (.putfield 21, 3) := by decide +kernel
theorem d_rp_init_30 : decode prog_1_method_1_code 30 = .ok (.aload_n 0, 1) := by decide +kernel
theorem d_rp_init_31 : decode prog_1_method_1_code 31 = .ok (.new 25, 3) := by decide +kernel
theorem d_rp_init_34 : decode prog_1_method_1_code 34 = .ok (.dup, 1) := by decide +kernel
theorem d_rp_init_35 : decode prog_1_method_1_code 35 = .ok (.aload_n 0, 1) := by decide +kernel
theorem d_rp_init_36 : decode prog_1_method_1_code 36 = .ok (.getfield 12, 3) := by decide +kernel
theorem d_rp_init_39 : decode prog_1_method_1_code 39 = .ok (.aload_n 0, 1) := by decide +kernel
theorem d_rp_init_40 : decode prog_1_method_1_code 40 = .ok (.getfield 21, 3) := by decide +kernel
theorem d_rp_init_43 : decode prog_1_method_1_code 43 = .ok (.invokespecial 27, 3) := by decide +kernel
theorem d_rp_init_46 : decode prog_1_method_1_code 46 = .ok (.putfield 30, 3) := by decide +kernel
theorem d_rp_init_49 : decode prog_1_method_1_code 49 = .ok (.aload_n 0, 1) := by decide +kernel
theorem d_rp_init_50 : decode prog_1_method_1_code 50 = .ok (.new 34, 3) := by decide +kernel
theorem d_rp_init_53 : decode prog_1_method_1_code 53 = .ok (.dup, 1) := by decide +kernel
theorem d_rp_init_54 : decode prog_1_method_1_code 54 = .ok (.invokespecial 36, 3) := by decide +kernel
theorem d_rp_init_57 : decode prog_1_method_1_code 57 = .ok (.putfield 37, 3) := by decide +kernel
theorem d_rp_init_60 : decode prog_1_method_1_code 60 = .ok (.return_, 1) := by decide +kernel
theorem d_rp_stop_0 : decode prog_1_method_2_code 0 = .ok (.aload_n 0, 1) := by decide +kernel
theorem d_rp_stop_1 : decode prog_1_method_2_code 1 = .ok (.getfield 12, 3) := by decide +kernel
theorem d_rp_stop_4 : decode prog_1_method_2_code 4 = .ok (.getfield 41, 3) := by decide +kernel
theorem d_rp_stop_7 : decode prog_1_method_2_code 7 = .ok (.bipush 7, 2) := by decide +kernel
theorem d_rp_stop_9 : decode prog_1_method_2_code 9 = .ok (.if_icmp .ge 12, 3) := by decide +kernel
theorem d_rp_stop_12 : decode prog_1_method_2_code 12 = .ok (.iload_n 1, 1) := by decide +kernel
theorem d_rp_stop_13 : decode prog_1_method_2_code 13 = .ok (.ldc 45, 2) := by decide +kernel
theorem d_rp_stop_15 : decode prog_1_method_2_code 15 = .ok (.invokestatic 46, 3) := by decide +kernel
theorem d_rp_stop_18 : decode prog_1_method_2_code 18 = .ok (.ifCond .ne 5, 3) := by decide +kernel
theorem d_rp_stop_21 : decode prog_1_method_2_code 21 = .ok (.iconst (-1), 1) := by decide +kernel
theorem d_rp_stop_22 : decode prog_1_method_2_code 22 = .ok (.ireturn, 1) := by decide +kernel
theorem d_rp_stop_23 : decode prog_1_method_2_code 23 = .ok (.aload_n 0, 1) := by decide +kernel
theorem d_rp_stop_24 : decode prog_1_method_2_code 24 = .ok (.getfield 12, 3) := by decide +kernel
theorem d_rp_stop_27 : decode prog_1_method_2_code 27 = .ok (.iload_n 1, 1) := by decide +kernel
theorem d_rp_stop_28 : decode prog_1_method_2_code 28 = .ok (.invokevirtual 50, 3) := by decide +kernel
theorem d_rp_stop_31 : decode prog_1_method_2_code 31 = .ok (.ireturn, 1) := by decide +kernel
theorem d_rp_hours_0 : decode prog_1_method_3_code 0 = .ok (.aload_n 0, 1) := by decide +kernel
theorem d_rp_hours_1 : decode prog_1_method_3_code 1 = .ok (.getfield 12, 3) := by decide +kernel
theorem d_rp_hours_4 : decode prog_1_method_3_code 4 = .ok (.iload_n 1, 1) := by decide +kernel
theorem d_rp_hours_5 : decode prog_1_method_3_code 5 = .ok (.invokevirtual 54, 3) := by decide +kernel
theorem d_rp_hours_8 : decode prog_1_method_3_code 8 = .ok (.ifCond .eq 22, 3) := by decide +kernel
theorem d_rp_hours_11 : decode prog_1_method_3_code 11 = .ok (.iload_n 2, 1) := by decide +kernel
theorem d_rp_hours_12 : decode prog_1_method_3_code 12 = .ok (.iload_n 3, 1) := by decide +kernel
theorem d_rp_hours_13 : decode prog_1_method_3_code 13 = .ok (.invokestatic 58, 3) := by decide +kernel
theorem d_rp_hours_16 : decode prog_1_method_3_code 16 = .ok (.ifCond .eq 14, 3) := by decide +kernel
theorem d_rp_hours_19 : decode prog_1_method_3_code 19 = .ok (.iload 4, 2) := by decide +kernel
theorem d_rp_hours_21 : decode prog_1_method_3_code 21 = .ok (.sipush 10000, 3) := by decide +kernel
theorem d_rp_hours_24 : decode prog_1_method_3_code 24 = .ok (.invokestatic 46, 3) := by decide +kernel
theorem d_rp_hours_27 : decode prog_1_method_3_code 27 = .ok (.ifCond .ne 5, 3) := by decide +kernel
theorem d_rp_hours_30 : decode prog_1_method_3_code 30 = .ok (.iconst 0, 1) := by decide +kernel
theorem d_rp_hours_31 : decode prog_1_method_3_code 31 = .ok (.ireturn, 1) := by decide +kernel
theorem d_rp_hours_32 : decode prog_1_method_3_code 32 = .ok (.aload_n 0, 1) := by decide +kernel
theorem d_rp_hours_33 : decode prog_1_method_3_code 33 = .ok (.getfield 12, 3) := by decide +kernel
theorem d_rp_hours_36 : decode prog_1_method_3_code 36 = .ok (.getfield 61, 3) := by decide +kernel
theorem d_rp_hours_39 : decode prog_1_method_3_code 39 = .ok (.iload_n 1, 1) := by decide +kernel
theorem d_rp_hours_40 : decode prog_1_method_3_code 40 = .ok (.iload_n 2, 1) := by decide +kernel
theorem d_rp_hours_41 : decode prog_1_method_3_code 41 = .ok (.iastore, 1) := by decide +kernel
theorem d_rp_hours_42 : decode prog_1_method_3_code 42 = .ok (.aload_n 0, 1) := by decide +kernel
theorem d_rp_hours_43 : decode prog_1_method_3_code 43 = .ok (.getfield 12, 3) := by decide +kernel
theorem d_rp_hours_46 : decode prog_1_method_3_code 46 = .ok (.getfield 65, 3) := by decide +kernel
theorem d_rp_hours_49 : decode prog_1_method_3_code 49 = .ok (.iload_n 1, 1) := by decide +kernel
theorem d_rp_hours_50 : decode prog_1_method_3_code 50 = .ok (.iload_n 3, 1) := by decide +kernel
theorem d_rp_hours_51 : decode prog_1_method_3_code 51 = .ok (.iastore, 1) := by decide +kernel
theorem d_rp_hours_52 : decode prog_1_method_3_code 52 = .ok (.aload_n 0, 1) := by decide +kernel
theorem d_rp_hours_53 : decode prog_1_method_3_code 53 = .ok (.getfield 12, 3) := by decide +kernel
theorem d_rp_hours_56 : decode prog_1_method_3_code 56 = .ok (.getfield 68, 3) := by decide +kernel
theorem d_rp_hours_59 : decode prog_1_method_3_code 59 = .ok (.iload_n 1, 1) := by decide +kernel
theorem d_rp_hours_60 : decode prog_1_method_3_code 60 = .ok (.iload 4, 2) := by decide +kernel
theorem d_rp_hours_62 : decode prog_1_method_3_code 62 = .ok (.iastore, 1) := by decide +kernel
theorem d_rp_hours_63 : decode prog_1_method_3_code 63 = .ok (.iconst 1, 1) := by decide +kernel
theorem d_rp_hours_64 : decode prog_1_method_3_code 64 = .ok (.ireturn, 1) := by decide +kernel
theorem d_rp_penalty_0 : decode prog_1_method_4_code 0 = .ok (.aload_n 0, 1) := by decide +kernel
theorem d_rp_penalty_1 : decode prog_1_method_4_code 1 = .ok (.getfield 12, 3) := by decide +kernel
theorem d_rp_penalty_4 : decode prog_1_method_4_code 4 = .ok (.iload_n 1, 1) := by decide +kernel
theorem d_rp_penalty_5 : decode prog_1_method_4_code 5 = .ok (.invokevirtual 54, 3) := by decide +kernel
theorem d_rp_penalty_8 : decode prog_1_method_4_code 8 = .ok (.ifCond .eq 17, 3) := by decide +kernel
theorem d_rp_penalty_11 : decode prog_1_method_4_code 11 = .ok (.lload_n 2, 1) := by decide +kernel
theorem d_rp_penalty_12 : decode prog_1_method_4_code 12 = .ok (.lconst 0, 1) := by decide +kernel
theorem d_rp_penalty_13 : decode prog_1_method_4_code 13 = .ok (.lcmp, 1) := by decide +kernel
theorem d_rp_penalty_14 : decode prog_1_method_4_code 14 = .ok (.ifCond .lt 11, 3) := by decide +kernel
theorem d_rp_penalty_17 : decode prog_1_method_4_code 17 = .ok (.lload_n 2, 1) := by decide +kernel
theorem d_rp_penalty_18 : decode prog_1_method_4_code 18 = .ok (.ldc2_w 71, 3) := by decide +kernel
theorem d_rp_penalty_21 : decode prog_1_method_4_code 21 = .ok (.lcmp, 1) := by decide +kernel
theorem d_rp_penalty_22 : decode prog_1_method_4_code 22 = .ok (.ifCond .le 5, 3) := by decide +kernel
theorem d_rp_penalty_25 : decode prog_1_method_4_code 25 = .ok (.iconst 0, 1) := by decide +kernel
theorem d_rp_penalty_26 : decode prog_1_method_4_code 26 = .ok (.ireturn, 1) := by decide +kernel
theorem d_rp_penalty_27 : decode prog_1_method_4_code 27 = .ok (.aload_n 0, 1) := by decide +kernel
theorem d_rp_penalty_28 : decode prog_1_method_4_code 28 = .ok (.getfield 12, 3) := by decide +kernel
theorem d_rp_penalty_31 : decode prog_1_method_4_code 31 = .ok (.getfield 73, 3) := by decide +kernel
theorem d_rp_penalty_34 : decode prog_1_method_4_code 34 = .ok (.iload_n 1, 1) := by decide +kernel
theorem d_rp_penalty_35 : decode prog_1_method_4_code 35 = .ok (.lload_n 2, 1) := by decide +kernel
theorem d_rp_penalty_36 : decode prog_1_method_4_code 36 = .ok (.lastore, 1) := by decide +kernel
theorem d_rp_penalty_37 : decode prog_1_method_4_code 37 = .ok (.iconst 1, 1) := by decide +kernel
theorem d_rp_penalty_38 : decode prog_1_method_4_code 38 = .ok (.ireturn, 1) := by decide +kernel
theorem d_rp_vehicle_0 : decode prog_1_method_5_code 0 = .ok (.aload_n 0, 1) := by decide +kernel
theorem d_rp_vehicle_1 : decode prog_1_method_5_code 1 = .ok (.getfield 12, 3) := by decide +kernel
theorem d_rp_vehicle_4 : decode prog_1_method_5_code 4 = .ok (.getfield 77, 3) := by decide +kernel
theorem d_rp_vehicle_7 : decode prog_1_method_5_code 7 = .ok (.iconst 3, 1) := by decide +kernel
theorem d_rp_vehicle_8 : decode prog_1_method_5_code 8 = .ok (.if_icmp .ge 31, 3) := by decide +kernel
theorem d_rp_vehicle_11 : decode prog_1_method_5_code 11 = .ok (.iload_n 1, 1) := by decide +kernel
theorem d_rp_vehicle_12 : decode prog_1_method_5_code 12 = .ok (.ldc 80, 2) := by decide +kernel
theorem d_rp_vehicle_14 : decode prog_1_method_5_code 14 = .ok (.invokestatic 46, 3) := by decide +kernel
theorem d_rp_vehicle_17 : decode prog_1_method_5_code 17 = .ok (.ifCond .eq 22, 3) := by decide +kernel
theorem d_rp_vehicle_20 : decode prog_1_method_5_code 20 = .ok (.iload_n 2, 1) := by decide +kernel
theorem d_rp_vehicle_21 : decode prog_1_method_5_code 21 = .ok (.iload_n 3, 1) := by decide +kernel
theorem d_rp_vehicle_22 : decode prog_1_method_5_code 22 = .ok (.invokestatic 58, 3) := by decide +kernel
theorem d_rp_vehicle_25 : decode prog_1_method_5_code 25 = .ok (.ifCond .eq 14, 3) := by decide +kernel
theorem d_rp_vehicle_28 : decode prog_1_method_5_code 28 = .ok (.iload 4, 2) := by decide +kernel
theorem d_rp_vehicle_30 : decode prog_1_method_5_code 30 = .ok (.sipush 1000, 3) := by decide +kernel
theorem d_rp_vehicle_33 : decode prog_1_method_5_code 33 = .ok (.invokestatic 46, 3) := by decide +kernel
theorem d_rp_vehicle_36 : decode prog_1_method_5_code 36 = .ok (.ifCond .ne 5, 3) := by decide +kernel
theorem d_rp_vehicle_39 : decode prog_1_method_5_code 39 = .ok (.iconst (-1), 1) := by decide +kernel
theorem d_rp_vehicle_40 : decode prog_1_method_5_code 40 = .ok (.ireturn, 1) := by decide +kernel
theorem d_rp_vehicle_41 : decode prog_1_method_5_code 41 = .ok (.aload_n 0, 1) := by decide +kernel
theorem d_rp_vehicle_42 : decode prog_1_method_5_code 42 = .ok (.getfield 12, 3) := by decide +kernel
theorem d_rp_vehicle_45 : decode prog_1_method_5_code 45 = .ok (.iload_n 1, 1) := by decide +kernel
theorem d_rp_vehicle_46 : decode prog_1_method_5_code 46 = .ok (.iload_n 2, 1) := by decide +kernel
theorem d_rp_vehicle_47 : decode prog_1_method_5_code 47 = .ok (.iload_n 3, 1) := by decide +kernel
theorem d_rp_vehicle_48 : decode prog_1_method_5_code 48 = .ok (.iload 4, 2) := by decide +kernel
theorem d_rp_vehicle_50 : decode prog_1_method_5_code 50 = .ok (.invokevirtual 81, 3) := by decide +kernel
theorem d_rp_vehicle_53 : decode prog_1_method_5_code 53 = .ok (.ireturn, 1) := by decide +kernel
theorem d_rp_way_0 : decode prog_1_method_6_code 0 = .ok (.iload_n 1, 1) := by decide +kernel
theorem d_rp_way_1 : decode prog_1_method_6_code 1 = .ok (.bipush 7, 2) := by decide +kernel
theorem d_rp_way_3 : decode prog_1_method_6_code 3 = .ok (.invokestatic 46, 3) := by decide +kernel
theorem d_rp_way_6 : decode prog_1_method_6_code 6 = .ok (.ifCond .eq 26, 3) := by decide +kernel
theorem d_rp_way_9 : decode prog_1_method_6_code 9 = .ok (.iload_n 2, 1) := by decide +kernel
theorem d_rp_way_10 : decode prog_1_method_6_code 10 = .ok (.bipush 7, 2) := by decide +kernel
theorem d_rp_way_12 : decode prog_1_method_6_code 12 = .ok (.invokestatic 46, 3) := by decide +kernel
theorem d_rp_way_15 : decode prog_1_method_6_code 15 = .ok (.ifCond .eq 17, 3) := by decide +kernel
theorem d_rp_way_18 : decode prog_1_method_6_code 18 = .ok (.iload_n 1, 1) := by decide +kernel
theorem d_rp_way_19 : decode prog_1_method_6_code 19 = .ok (.iload_n 2, 1) := by decide +kernel
theorem d_rp_way_20 : decode prog_1_method_6_code 20 = .ok (.if_icmp .eq 12, 3) := by decide +kernel
theorem d_rp_way_23 : decode prog_1_method_6_code 23 = .ok (.iload_n 3, 1) := by decide +kernel
theorem d_rp_way_24 : decode prog_1_method_6_code 24 = .ok (.ldc 85, 2) := by decide +kernel
theorem d_rp_way_26 : decode prog_1_method_6_code 26 = .ok (.invokestatic 46, 3) := by decide +kernel
theorem d_rp_way_29 : decode prog_1_method_6_code 29 = .ok (.ifCond .ne 5, 3) := by decide +kernel
theorem d_rp_way_32 : decode prog_1_method_6_code 32 = .ok (.iconst 0, 1) := by decide +kernel
theorem d_rp_way_33 : decode prog_1_method_6_code 33 = .ok (.ireturn, 1) := by decide +kernel
theorem d_rp_way_34 : decode prog_1_method_6_code 34 = .ok (.aload_n 0, 1) := by decide +kernel
theorem d_rp_way_35 : decode prog_1_method_6_code 35 = .ok (.getfield 12, 3) := by decide +kernel
theorem d_rp_way_38 : decode prog_1_method_6_code 38 = .ok (.getfield 86, 3) := by decide +kernel
theorem d_rp_way_41 : decode prog_1_method_6_code 41 = .ok (.iload_n 1, 1) := by decide +kernel
theorem d_rp_way_42 : decode prog_1_method_6_code 42 = .ok (.bipush 8, 2) := by decide +kernel
theorem d_rp_way_44 : decode prog_1_method_6_code 44 = .ok (.imul, 1) := by decide +kernel
theorem d_rp_way_45 : decode prog_1_method_6_code 45 = .ok (.iload_n 2, 1) := by decide +kernel
theorem d_rp_way_46 : decode prog_1_method_6_code 46 = .ok (.iadd, 1) := by decide +kernel
theorem d_rp_way_47 : decode prog_1_method_6_code 47 = .ok (.iload_n 3, 1) := by decide +kernel
theorem d_rp_way_48 : decode prog_1_method_6_code 48 = .ok (.iastore, 1) := by decide +kernel
theorem d_rp_way_49 : decode prog_1_method_6_code 49 = .ok (.iconst 1, 1) := by decide +kernel
theorem d_rp_way_50 : decode prog_1_method_6_code 50 = .ok (.ireturn, 1) := by decide +kernel
theorem d_rp_fixed_0 : decode prog_1_method_7_code 0 = .ok (.aload_n 0, 1) := by decide +kernel
theorem d_rp_fixed_1 : decode prog_1_method_7_code 1 = .ok (.getfield 12, 3) := by decide +kernel
theorem d_rp_fixed_4 : decode prog_1_method_7_code 4 = .ok (.iload_n 1, 1) := by decide +kernel
theorem d_rp_fixed_5 : decode prog_1_method_7_code 5 = .ok (.invokevirtual 54, 3) := by decide +kernel
theorem d_rp_fixed_8 : decode prog_1_method_7_code 8 = .ok (.ifCond .eq 19, 3) := by decide +kernel
theorem d_rp_fixed_11 : decode prog_1_method_7_code 11 = .ok (.iload_n 2, 1) := by decide +kernel
theorem d_rp_fixed_12 : decode prog_1_method_7_code 12 = .ok (.iconst (-1), 1) := by decide +kernel
theorem d_rp_fixed_13 : decode prog_1_method_7_code 13 = .ok (.if_icmp .eq 16, 3) := by decide +kernel
theorem d_rp_fixed_16 : decode prog_1_method_7_code 16 = .ok (.aload_n 0, 1) := by decide +kernel
theorem d_rp_fixed_17 : decode prog_1_method_7_code 17 = .ok (.getfield 12, 3) := by decide +kernel
theorem d_rp_fixed_20 : decode prog_1_method_7_code 20 = .ok (.iload_n 2, 1) := by decide +kernel
theorem d_rp_fixed_21 : decode prog_1_method_7_code 21 = .ok (.invokevirtual 89, 3) := by decide +kernel
theorem d_rp_fixed_24 : decode prog_1_method_7_code 24 = .ok (.ifCond .ne 5, 3) := by decide +kernel
theorem d_rp_fixed_27 : decode prog_1_method_7_code 27 = .ok (.iconst 0, 1) := by decide +kernel
theorem d_rp_fixed_28 : decode prog_1_method_7_code 28 = .ok (.ireturn, 1) := by decide +kernel
theorem d_rp_fixed_29 : decode prog_1_method_7_code 29 = .ok (.aload_n 0, 1) := by decide +kernel
theorem d_rp_fixed_30 : decode prog_1_method_7_code 30 = .ok (.getfield 12, 3) := by decide +kernel
theorem d_rp_fixed_33 : decode prog_1_method_7_code 33 = .ok (.getfield 92, 3) := by decide +kernel
theorem d_rp_fixed_36 : decode prog_1_method_7_code 36 = .ok (.iload_n 1, 1) := by decide +kernel
theorem d_rp_fixed_37 : decode prog_1_method_7_code 37 = .ok (.iload_n 2, 1) := by decide +kernel
theorem d_rp_fixed_38 : decode prog_1_method_7_code 38 = .ok (.iastore, 1) := by decide +kernel
theorem d_rp_fixed_39 : decode prog_1_method_7_code 39 = .ok (.iconst 1, 1) := by decide +kernel
theorem d_rp_fixed_40 : decode prog_1_method_7_code 40 = .ok (.ireturn, 1) := by decide +kernel
theorem d_rp_apart_0 : decode prog_1_method_8_code 0 = .ok (.aload_n 0, 1) := by decide +kernel
theorem d_rp_apart_1 : decode prog_1_method_8_code 1 = .ok (.getfield 12, 3) := by decide +kernel
theorem d_rp_apart_4 : decode prog_1_method_8_code 4 = .ok (.iload_n 1, 1) := by decide +kernel
theorem d_rp_apart_5 : decode prog_1_method_8_code 5 = .ok (.iload_n 2, 1) := by decide +kernel
theorem d_rp_apart_6 : decode prog_1_method_8_code 6 = .ok (.invokevirtual 95, 3) := by decide +kernel
theorem d_rp_apart_9 : decode prog_1_method_8_code 9 = .ok (.ifCond .ne 5, 3) := by decide +kernel
theorem d_rp_apart_12 : decode prog_1_method_8_code 12 = .ok (.iconst 0, 1) := by decide +kernel
theorem d_rp_apart_13 : decode prog_1_method_8_code 13 = .ok (.ireturn, 1) := by decide +kernel
theorem d_rp_apart_14 : decode prog_1_method_8_code 14 = .ok (.aload_n 0, 1) := by decide +kernel
theorem d_rp_apart_15 : decode prog_1_method_8_code 15 = .ok (.getfield 12, 3) := by decide +kernel
theorem d_rp_apart_18 : decode prog_1_method_8_code 18 = .ok (.iload_n 1, 1) := by decide +kernel
theorem d_rp_apart_19 : decode prog_1_method_8_code 19 = .ok (.iload_n 2, 1) := by decide +kernel
theorem d_rp_apart_20 : decode prog_1_method_8_code 20 = .ok (.iload_n 3, 1) := by decide +kernel
theorem d_rp_apart_21 : decode prog_1_method_8_code 21 = .ok (.invokevirtual 98, 3) := by decide +kernel
theorem d_rp_apart_24 : decode prog_1_method_8_code 24 = .ok (.iconst 1, 1) := by decide +kernel
theorem d_rp_apart_25 : decode prog_1_method_8_code 25 = .ok (.ireturn, 1) := by decide +kernel
theorem d_rp_before_0 : decode prog_1_method_9_code 0 = .ok (.aload_n 0, 1) := by decide +kernel
theorem d_rp_before_1 : decode prog_1_method_9_code 1 = .ok (.getfield 12, 3) := by decide +kernel
theorem d_rp_before_4 : decode prog_1_method_9_code 4 = .ok (.iload_n 1, 1) := by decide +kernel
theorem d_rp_before_5 : decode prog_1_method_9_code 5 = .ok (.iload_n 2, 1) := by decide +kernel
theorem d_rp_before_6 : decode prog_1_method_9_code 6 = .ok (.invokevirtual 95, 3) := by decide +kernel
theorem d_rp_before_9 : decode prog_1_method_9_code 9 = .ok (.ifCond .eq 35, 3) := by decide +kernel
theorem d_rp_before_12 : decode prog_1_method_9_code 12 = .ok (.aload_n 0, 1) := by decide +kernel
theorem d_rp_before_13 : decode prog_1_method_9_code 13 = .ok (.getfield 12, 3) := by decide +kernel
theorem d_rp_before_16 : decode prog_1_method_9_code 16 = .ok (.getfield 102, 3) := by decide +kernel
theorem d_rp_before_19 : decode prog_1_method_9_code 19 = .ok (.iload_n 1, 1) := by decide +kernel
theorem d_rp_before_20 : decode prog_1_method_9_code 20 = .ok (.iaload, 1) := by decide +kernel
theorem d_rp_before_21 : decode prog_1_method_9_code 21 = .ok (.iload_n 2, 1) := by decide +kernel
theorem d_rp_before_22 : decode prog_1_method_9_code 22 = .ok (.invokestatic 105, 3) := by decide +kernel
theorem d_rp_before_25 : decode prog_1_method_9_code 25 = .ok (.ifCond .ne 19, 3) := by decide +kernel
theorem d_rp_before_28 : decode prog_1_method_9_code 28 = .ok (.aload_n 0, 1) := by decide +kernel
theorem d_rp_before_29 : decode prog_1_method_9_code 29 = .ok (.getfield 12, 3) := by decide +kernel
theorem d_rp_before_32 : decode prog_1_method_9_code 32 = .ok (.getfield 108, 3) := by decide +kernel
theorem d_rp_before_35 : decode prog_1_method_9_code 35 = .ok (.iload_n 2, 1) := by decide +kernel
theorem d_rp_before_36 : decode prog_1_method_9_code 36 = .ok (.iaload, 1) := by decide +kernel
theorem d_rp_before_37 : decode prog_1_method_9_code 37 = .ok (.iload_n 1, 1) := by decide +kernel
theorem d_rp_before_38 : decode prog_1_method_9_code 38 = .ok (.invokestatic 105, 3) := by decide +kernel
theorem d_rp_before_41 : decode prog_1_method_9_code 41 = .ok (.ifCond .eq 5, 3) := by decide +kernel
theorem d_rp_before_44 : decode prog_1_method_9_code 44 = .ok (.iconst 0, 1) := by decide +kernel
theorem d_rp_before_45 : decode prog_1_method_9_code 45 = .ok (.ireturn, 1) := by decide +kernel
theorem d_rp_before_46 : decode prog_1_method_9_code 46 = .ok (.aload_n 0, 1) := by decide +kernel
theorem d_rp_before_47 : decode prog_1_method_9_code 47 = .ok (.getfield 12, 3) := by decide +kernel
theorem d_rp_before_50 : decode prog_1_method_9_code 50 = .ok (.iload_n 1, 1) := by decide +kernel
theorem d_rp_before_51 : decode prog_1_method_9_code 51 = .ok (.iload_n 2, 1) := by decide +kernel
theorem d_rp_before_52 : decode prog_1_method_9_code 52 = .ok (.invokevirtual 111, 3) := by decide +kernel
theorem d_rp_before_55 : decode prog_1_method_9_code 55 = .ok (.iconst 1, 1) := by decide +kernel
theorem d_rp_before_56 : decode prog_1_method_9_code 56 = .ok (.ireturn, 1) := by decide +kernel
theorem d_rp_run_0 : decode prog_1_method_10_code 0 = .ok (.aload_n 0, 1) := by decide +kernel
theorem d_rp_run_1 : decode prog_1_method_10_code 1 = .ok (.getfield 21, 3) := by decide +kernel
theorem d_rp_run_4 : decode prog_1_method_10_code 4 = .ok (.invokevirtual 115, 3) := by decide +kernel
theorem d_rp_run_7 : decode prog_1_method_10_code 7 = .ok (.aload_n 0, 1) := by decide +kernel
theorem d_rp_run_8 : decode prog_1_method_10_code 8 = .ok (.getfield 30, 3) := by decide +kernel
theorem d_rp_run_11 : decode prog_1_method_10_code 11 = .ok (.invokevirtual 118, 3) := by decide +kernel
theorem d_rp_run_14 : decode prog_1_method_10_code 14 = .ok (.aload_n 0, 1) := by decide +kernel
theorem d_rp_run_15 : decode prog_1_method_10_code 15 = .ok (.getfield 30, 3) := by decide +kernel
theorem d_rp_run_18 : decode prog_1_method_10_code 18 = .ok (.iconst (-1), 1) := by decide +kernel
theorem d_rp_run_19 : decode prog_1_method_10_code 19 = .ok (.invokevirtual 121, 3) := by decide +kernel
theorem d_rp_run_22 : decode prog_1_method_10_code 22 = .ok (.lstore_n 1, 1) := by decide +kernel
theorem d_rp_run_23 : decode prog_1_method_10_code 23 = .ok (.aload_n 0, 1) := by decide +kernel
theorem d_rp_run_24 : decode prog_1_method_10_code 24 = .ok (.getfield 37, 3) := by decide +kernel
theorem d_rp_run_27 : decode prog_1_method_10_code 27 = .ok (.aload_n 0, 1) := by decide +kernel
theorem d_rp_run_28 : decode prog_1_method_10_code 28 = .ok (.getfield 12, 3) := by decide +kernel
theorem d_rp_run_31 : decode prog_1_method_10_code 31 = .ok (.lload_n 1, 1) := by decide +kernel
theorem d_rp_run_32 : decode prog_1_method_10_code 32 = .ok (.invokevirtual 125, 3) := by decide +kernel
theorem d_rp_run_35 : decode prog_1_method_10_code 35 = .ok (.iconst 0, 1) := by decide +kernel
theorem d_rp_run_36 : decode prog_1_method_10_code 36 = .ok (.istore_n 3, 1) := by decide +kernel
theorem d_rp_run_37 : decode prog_1_method_10_code 37 = .ok (.iload_n 3, 1) := by decide +kernel
theorem d_rp_run_38 : decode prog_1_method_10_code 38 = .ok (.aload_n 0, 1) := by decide +kernel
theorem d_rp_run_39 : decode prog_1_method_10_code 39 = .ok (.getfield 12, 3) := by decide +kernel
theorem d_rp_run_42 : decode prog_1_method_10_code 42 = .ok (.getfield 77, 3) := by decide +kernel
theorem d_rp_run_45 : decode prog_1_method_10_code 45 = .ok (.if_icmp .ge 70, 3) := by decide +kernel
theorem d_rp_run_48 : decode prog_1_method_10_code 48 = .ok (.aload_n 0, 1) := by decide +kernel
theorem d_rp_run_49 : decode prog_1_method_10_code 49 = .ok (.getfield 37, 3) := by decide +kernel
theorem d_rp_run_52 : decode prog_1_method_10_code 52 = .ok (.getfield 129, 3) := by decide +kernel
theorem d_rp_run_55 : decode prog_1_method_10_code 55 = .ok (.iload_n 3, 1) := by decide +kernel
theorem d_rp_run_56 : decode prog_1_method_10_code 56 = .ok (.aload_n 0, 1) := by decide +kernel
theorem d_rp_run_57 : decode prog_1_method_10_code 57 = .ok (.getfield 30, 3) := by decide +kernel
theorem d_rp_run_60 : decode prog_1_method_10_code 60 = .ok (.iload_n 3, 1) := by decide +kernel
theorem d_rp_run_61 : decode prog_1_method_10_code 61 = .ok (.invokevirtual 121, 3) := by decide +kernel
theorem d_rp_run_64 : decode prog_1_method_10_code 64 = .ok (.invokestatic 132, 3) := by decide +kernel
theorem d_rp_run_67 : decode prog_1_method_10_code 67 = .ok (.aload_n 0, 1) := by decide +kernel
theorem d_rp_run_68 : decode prog_1_method_10_code 68 = .ok (.getfield 37, 3) := by decide +kernel
theorem d_rp_run_71 : decode prog_1_method_10_code 71 = .ok (.getfield 136, 3) := by decide +kernel
theorem d_rp_run_74 : decode prog_1_method_10_code 74 = .ok (.lsub, 1) := by decide +kernel
theorem d_rp_run_75 : decode prog_1_method_10_code 75 = .ok (.lastore, 1) := by decide +kernel
theorem d_rp_run_76 : decode prog_1_method_10_code 76 = .ok (.lload_n 1, 1) := by decide +kernel
theorem d_rp_run_77 : decode prog_1_method_10_code 77 = .ok (.iload_n 3, 1) := by decide +kernel
theorem d_rp_run_78 : decode prog_1_method_10_code 78 = .ok (.aload_n 0, 1) := by decide +kernel
theorem d_rp_run_79 : decode prog_1_method_10_code 79 = .ok (.getfield 12, 3) := by decide +kernel
theorem d_rp_run_82 : decode prog_1_method_10_code 82 = .ok (.getfield 41, 3) := by decide +kernel
theorem d_rp_run_85 : decode prog_1_method_10_code 85 = .ok (.invokestatic 140, 3) := by decide +kernel
theorem d_rp_run_88 : decode prog_1_method_10_code 88 = .ok (.istore 4, 2) := by decide +kernel
theorem d_rp_run_90 : decode prog_1_method_10_code 90 = .ok (.iload 4, 2) := by decide +kernel
theorem d_rp_run_92 : decode prog_1_method_10_code 92 = .ok (.ifCond .eq 17, 3) := by decide +kernel
theorem d_rp_run_95 : decode prog_1_method_10_code 95 = .ok (.aload_n 0, 1) := by decide +kernel
theorem d_rp_run_96 : decode prog_1_method_10_code 96 = .ok (.getfield 21, 3) := by decide +kernel
theorem d_rp_run_99 : decode prog_1_method_10_code 99 = .ok (.iload_n 3, 1) := by decide +kernel
theorem d_rp_run_100 : decode prog_1_method_10_code 100 = .ok (.iload 4, 2) := by decide +kernel
theorem d_rp_run_102 : decode prog_1_method_10_code 102 = .ok (.aload_n 0, 1) := by decide +kernel
theorem d_rp_run_103 : decode prog_1_method_10_code 103 = .ok (.getfield 37, 3) := by decide +kernel
theorem d_rp_run_106 : decode prog_1_method_10_code 106 = .ok (.invokevirtual 144, 3) := by decide +kernel
theorem d_rp_run_109 : decode prog_1_method_10_code 109 = .ok (.iinc 3 1, 3) := by decide +kernel
theorem d_rp_run_112 : decode prog_1_method_10_code 112 = .ok (.goto (-75), 3) := by decide +kernel
theorem d_rp_run_115 : decode prog_1_method_10_code 115 = .ok (.lload_n 1, 1) := by decide +kernel
theorem d_rp_run_116 : decode prog_1_method_10_code 116 = .ok (.iconst 3, 1) := by decide +kernel
theorem d_rp_run_117 : decode prog_1_method_10_code 117 = .ok (.aload_n 0, 1) := by decide +kernel
theorem d_rp_run_118 : decode prog_1_method_10_code 118 = .ok (.getfield 12, 3) := by decide +kernel
theorem d_rp_run_121 : decode prog_1_method_10_code 121 = .ok (.getfield 41, 3) := by decide +kernel
theorem d_rp_run_124 : decode prog_1_method_10_code 124 = .ok (.invokestatic 140, 3) := by decide +kernel
theorem d_rp_run_127 : decode prog_1_method_10_code 127 = .ok (.invokestatic 148, 3) := by decide +kernel
theorem d_rp_run_130 : decode prog_1_method_10_code 130 = .ok (.ireturn, 1) := by decide +kernel
theorem d_rp_cost_0 : decode prog_1_method_11_code 0 = .ok (.aload_n 0, 1) := by decide +kernel
theorem d_rp_cost_1 : decode prog_1_method_11_code 1 = .ok (.getfield 37, 3) := by decide +kernel
theorem d_rp_cost_4 : decode prog_1_method_11_code 4 = .ok (.getfield 136, 3) := by decide +kernel
theorem d_rp_cost_7 : decode prog_1_method_11_code 7 = .ok (.lreturn, 1) := by decide +kernel
theorem d_rp_vehicleOf_0 : decode prog_1_method_12_code 0 = .ok (.aload_n 0, 1) := by decide +kernel
theorem d_rp_vehicleOf_1 : decode prog_1_method_12_code 1 = .ok (.getfield 37, 3) := by decide +kernel
theorem d_rp_vehicleOf_4 : decode prog_1_method_12_code 4 = .ok (.iload_n 1, 1) := by decide +kernel
theorem d_rp_vehicleOf_5 : decode prog_1_method_12_code 5 = .ok (.invokevirtual 153, 3) := by decide +kernel
theorem d_rp_vehicleOf_8 : decode prog_1_method_12_code 8 = .ok (.ifCond .eq 15, 3) := by decide +kernel
theorem d_rp_vehicleOf_11 : decode prog_1_method_12_code 11 = .ok (.aload_n 0, 1) := by decide +kernel
theorem d_rp_vehicleOf_12 : decode prog_1_method_12_code 12 = .ok (.getfield 37, 3) := by decide +kernel
theorem d_rp_vehicleOf_15 : decode prog_1_method_12_code 15 = .ok (.getfield 154, 3) := by decide +kernel
theorem d_rp_vehicleOf_18 : decode prog_1_method_12_code 18 = .ok (.iload_n 1, 1) := by decide +kernel
theorem d_rp_vehicleOf_19 : decode prog_1_method_12_code 19 = .ok (.iaload, 1) := by decide +kernel
theorem d_rp_vehicleOf_20 : decode prog_1_method_12_code 20 = .ok (.goto 4, 3) := by decide +kernel
theorem d_rp_vehicleOf_23 : decode prog_1_method_12_code 23 = .ok (.iconst (-1), 1) := by decide +kernel
theorem d_rp_vehicleOf_24 : decode prog_1_method_12_code 24 = .ok (.ireturn, 1) := by decide +kernel
theorem d_rp_at_0 : decode prog_1_method_13_code 0 = .ok (.aload_n 0, 1) := by decide +kernel
theorem d_rp_at_1 : decode prog_1_method_13_code 1 = .ok (.getfield 37, 3) := by decide +kernel
theorem d_rp_at_4 : decode prog_1_method_13_code 4 = .ok (.iload_n 1, 1) := by decide +kernel
theorem d_rp_at_5 : decode prog_1_method_13_code 5 = .ok (.invokevirtual 156, 3) := by decide +kernel
theorem d_rp_at_8 : decode prog_1_method_13_code 8 = .ok (.ifCond .eq 20, 3) := by decide +kernel
theorem d_rp_at_11 : decode prog_1_method_13_code 11 = .ok (.iload_n 2, 1) := by decide +kernel
theorem d_rp_at_12 : decode prog_1_method_13_code 12 = .ok (.ifCond .lt 16, 3) := by decide +kernel
theorem d_rp_at_15 : decode prog_1_method_13_code 15 = .ok (.iload_n 2, 1) := by decide +kernel
theorem d_rp_at_16 : decode prog_1_method_13_code 16 = .ok (.aload_n 0, 1) := by decide +kernel
theorem d_rp_at_17 : decode prog_1_method_13_code 17 = .ok (.getfield 37, 3) := by decide +kernel
theorem d_rp_at_20 : decode prog_1_method_13_code 20 = .ok (.getfield 157, 3) := by decide +kernel
theorem d_rp_at_23 : decode prog_1_method_13_code 23 = .ok (.iload_n 1, 1) := by decide +kernel
theorem d_rp_at_24 : decode prog_1_method_13_code 24 = .ok (.iaload, 1) := by decide +kernel
theorem d_rp_at_25 : decode prog_1_method_13_code 25 = .ok (.if_icmp .lt 5, 3) := by decide +kernel
theorem d_rp_at_28 : decode prog_1_method_13_code 28 = .ok (.iconst (-1), 1) := by decide +kernel
theorem d_rp_at_29 : decode prog_1_method_13_code 29 = .ok (.ireturn, 1) := by decide +kernel
theorem d_rp_at_30 : decode prog_1_method_13_code 30 = .ok (.aload_n 0, 1) := by decide +kernel
theorem d_rp_at_31 : decode prog_1_method_13_code 31 = .ok (.getfield 37, 3) := by decide +kernel
theorem d_rp_at_34 : decode prog_1_method_13_code 34 = .ok (.getfield 160, 3) := by decide +kernel
theorem d_rp_at_37 : decode prog_1_method_13_code 37 = .ok (.iload_n 1, 1) := by decide +kernel
theorem d_rp_at_38 : decode prog_1_method_13_code 38 = .ok (.bipush 7, 2) := by decide +kernel
theorem d_rp_at_40 : decode prog_1_method_13_code 40 = .ok (.imul, 1) := by decide +kernel
theorem d_rp_at_41 : decode prog_1_method_13_code 41 = .ok (.iload_n 2, 1) := by decide +kernel
theorem d_rp_at_42 : decode prog_1_method_13_code 42 = .ok (.iadd, 1) := by decide +kernel
theorem d_rp_at_43 : decode prog_1_method_13_code 43 = .ok (.iaload, 1) := by decide +kernel
theorem d_rp_at_44 : decode prog_1_method_13_code 44 = .ok (.ireturn, 1) := by decide +kernel
theorem d_rp_begun_0 : decode prog_1_method_14_code 0 = .ok (.aload_n 0, 1) := by decide +kernel
theorem d_rp_begun_1 : decode prog_1_method_14_code 1 = .ok (.getfield 37, 3) := by decide +kernel
theorem d_rp_begun_4 : decode prog_1_method_14_code 4 = .ok (.iload_n 1, 1) := by decide +kernel
theorem d_rp_begun_5 : decode prog_1_method_14_code 5 = .ok (.invokevirtual 153, 3) := by decide +kernel
theorem d_rp_begun_8 : decode prog_1_method_14_code 8 = .ok (.ifCond .eq 15, 3) := by decide +kernel
theorem d_rp_begun_11 : decode prog_1_method_14_code 11 = .ok (.aload_n 0, 1) := by decide +kernel
theorem d_rp_begun_12 : decode prog_1_method_14_code 12 = .ok (.getfield 37, 3) := by decide +kernel
theorem d_rp_begun_15 : decode prog_1_method_14_code 15 = .ok (.getfield 163, 3) := by decide +kernel
theorem d_rp_begun_18 : decode prog_1_method_14_code 18 = .ok (.iload_n 1, 1) := by decide +kernel
theorem d_rp_begun_19 : decode prog_1_method_14_code 19 = .ok (.iaload, 1) := by decide +kernel
theorem d_rp_begun_20 : decode prog_1_method_14_code 20 = .ok (.goto 4, 3) := by decide +kernel
theorem d_rp_begun_23 : decode prog_1_method_14_code 23 = .ok (.iconst (-1), 1) := by decide +kernel
theorem d_rp_begun_24 : decode prog_1_method_14_code 24 = .ok (.ireturn, 1) := by decide +kernel
theorem d_rp_back_0 : decode prog_1_method_15_code 0 = .ok (.aload_n 0, 1) := by decide +kernel
theorem d_rp_back_1 : decode prog_1_method_15_code 1 = .ok (.getfield 37, 3) := by decide +kernel
theorem d_rp_back_4 : decode prog_1_method_15_code 4 = .ok (.iload_n 1, 1) := by decide +kernel
theorem d_rp_back_5 : decode prog_1_method_15_code 5 = .ok (.invokevirtual 156, 3) := by decide +kernel
theorem d_rp_back_8 : decode prog_1_method_15_code 8 = .ok (.ifCond .eq 15, 3) := by decide +kernel
theorem d_rp_back_11 : decode prog_1_method_15_code 11 = .ok (.aload_n 0, 1) := by decide +kernel
theorem d_rp_back_12 : decode prog_1_method_15_code 12 = .ok (.getfield 37, 3) := by decide +kernel
theorem d_rp_back_15 : decode prog_1_method_15_code 15 = .ok (.getfield 166, 3) := by decide +kernel
theorem d_rp_back_18 : decode prog_1_method_15_code 18 = .ok (.iload_n 1, 1) := by decide +kernel
theorem d_rp_back_19 : decode prog_1_method_15_code 19 = .ok (.iaload, 1) := by decide +kernel
theorem d_rp_back_20 : decode prog_1_method_15_code 20 = .ok (.goto 4, 3) := by decide +kernel
theorem d_rp_back_23 : decode prog_1_method_15_code 23 = .ok (.iconst (-1), 1) := by decide +kernel
theorem d_rp_back_24 : decode prog_1_method_15_code 24 = .ok (.ireturn, 1) := by decide +kernel
theorem d_rp_saved_0 : decode prog_1_method_16_code 0 = .ok (.aload_n 0, 1) := by decide +kernel
theorem d_rp_saved_1 : decode prog_1_method_16_code 1 = .ok (.getfield 37, 3) := by decide +kernel
theorem d_rp_saved_4 : decode prog_1_method_16_code 4 = .ok (.iload_n 1, 1) := by decide +kernel
theorem d_rp_saved_5 : decode prog_1_method_16_code 5 = .ok (.invokevirtual 156, 3) := by decide +kernel
theorem d_rp_saved_8 : decode prog_1_method_16_code 8 = .ok (.ifCond .eq 15, 3) := by decide +kernel
theorem d_rp_saved_11 : decode prog_1_method_16_code 11 = .ok (.aload_n 0, 1) := by decide +kernel
theorem d_rp_saved_12 : decode prog_1_method_16_code 12 = .ok (.getfield 37, 3) := by decide +kernel
theorem d_rp_saved_15 : decode prog_1_method_16_code 15 = .ok (.getfield 129, 3) := by decide +kernel
theorem d_rp_saved_18 : decode prog_1_method_16_code 18 = .ok (.iload_n 1, 1) := by decide +kernel
theorem d_rp_saved_19 : decode prog_1_method_16_code 19 = .ok (.laload, 1) := by decide +kernel
theorem d_rp_saved_20 : decode prog_1_method_16_code 20 = .ok (.goto 6, 3) := by decide +kernel
theorem d_rp_saved_23 : decode prog_1_method_16_code 23 = .ok (.ldc2_w 169, 3) := by decide +kernel
theorem d_rp_saved_26 : decode prog_1_method_16_code 26 = .ok (.lreturn, 1) := by decide +kernel
theorem d_rp_isWithin_0 : decode prog_1_method_17_code 0 = .ok (.iload_n 0, 1) := by decide +kernel
theorem d_rp_isWithin_1 : decode prog_1_method_17_code 1 = .ok (.ifCond .lt 12, 3) := by decide +kernel
theorem d_rp_isWithin_4 : decode prog_1_method_17_code 4 = .ok (.iload_n 0, 1) := by decide +kernel
theorem d_rp_isWithin_5 : decode prog_1_method_17_code 5 = .ok (.iload_n 1, 1) := by decide +kernel
theorem d_rp_isWithin_6 : decode prog_1_method_17_code 6 = .ok (.if_icmp .gt 7, 3) := by decide +kernel
theorem d_rp_isWithin_9 : decode prog_1_method_17_code 9 = .ok (.iconst 1, 1) := by decide +kernel
theorem d_rp_isWithin_10 : decode prog_1_method_17_code 10 = .ok (.goto 4, 3) := by decide +kernel
theorem d_rp_isWithin_13 : decode prog_1_method_17_code 13 = .ok (.iconst 0, 1) := by decide +kernel
theorem d_rp_isWithin_14 : decode prog_1_method_17_code 14 = .ok (.ireturn, 1) := by decide +kernel
theorem d_rp_isSpan_0 : decode prog_1_method_18_code 0 = .ok (.iload_n 0, 1) := by decide +kernel
theorem d_rp_isSpan_1 : decode prog_1_method_18_code 1 = .ok (.ifCond .lt 18, 3) := by decide +kernel
theorem d_rp_isSpan_4 : decode prog_1_method_18_code 4 = .ok (.iload_n 0, 1) := by decide +kernel
theorem d_rp_isSpan_5 : decode prog_1_method_18_code 5 = .ok (.iload_n 1, 1) := by decide +kernel
theorem d_rp_isSpan_6 : decode prog_1_method_18_code 6 = .ok (.if_icmp .gt 13, 3) := by decide +kernel
theorem d_rp_isSpan_9 : decode prog_1_method_18_code 9 = .ok (.iload_n 1, 1) := by decide +kernel
theorem d_rp_isSpan_10 : decode prog_1_method_18_code 10 = .ok (.ldc 171, 2) := by decide +kernel
theorem d_rp_isSpan_12 : decode prog_1_method_18_code 12 = .ok (.if_icmp .gt 7, 3) := by decide +kernel
theorem d_rp_isSpan_15 : decode prog_1_method_18_code 15 = .ok (.iconst 1, 1) := by decide +kernel
theorem d_rp_isSpan_16 : decode prog_1_method_18_code 16 = .ok (.goto 4, 3) := by decide +kernel
theorem d_rp_isSpan_19 : decode prog_1_method_18_code 19 = .ok (.iconst 0, 1) := by decide +kernel
theorem d_rp_isSpan_20 : decode prog_1_method_18_code 20 = .ok (.ireturn, 1) := by decide +kernel
theorem d_rp_holds_0 : decode prog_1_method_19_code 0 = .ok (.iload_n 0, 1) := by decide +kernel
theorem d_rp_holds_1 : decode prog_1_method_19_code 1 = .ok (.iload_n 1, 1) := by decide +kernel
theorem d_rp_holds_2 : decode prog_1_method_19_code 2 = .ok (.ishr, 1) := by decide +kernel
theorem d_rp_holds_3 : decode prog_1_method_19_code 3 = .ok (.iconst 1, 1) := by decide +kernel
theorem d_rp_holds_4 : decode prog_1_method_19_code 4 = .ok (.iand, 1) := by decide +kernel
theorem d_rp_holds_5 : decode prog_1_method_19_code 5 = .ok (.ifCond .eq 7, 3) := by decide +kernel
theorem d_rp_holds_8 : decode prog_1_method_19_code 8 = .ok (.iconst 1, 1) := by decide +kernel
theorem d_rp_holds_9 : decode prog_1_method_19_code 9 = .ok (.goto 4, 3) := by decide +kernel
theorem d_rp_holds_12 : decode prog_1_method_19_code 12 = .ok (.iconst 0, 1) := by decide +kernel
theorem d_rp_holds_13 : decode prog_1_method_19_code 13 = .ok (.ireturn, 1) := by decide +kernel
theorem d_rp_with_0 : decode prog_1_method_20_code 0 = .ok (.iload_n 0, 1) := by decide +kernel
theorem d_rp_with_1 : decode prog_1_method_20_code 1 = .ok (.iconst 1, 1) := by decide +kernel
theorem d_rp_with_2 : decode prog_1_method_20_code 2 = .ok (.iload_n 1, 1) := by decide +kernel
theorem d_rp_with_3 : decode prog_1_method_20_code 3 = .ok (.ishl, 1) := by decide +kernel
theorem d_rp_with_4 : decode prog_1_method_20_code 4 = .ok (.ior, 1) := by decide +kernel
theorem d_rp_with_5 : decode prog_1_method_20_code 5 = .ok (.ireturn, 1) := by decide +kernel
theorem d_rp_without_0 : decode prog_1_method_21_code 0 = .ok (.iload_n 0, 1) := by decide +kernel
theorem d_rp_without_1 : decode prog_1_method_21_code 1 = .ok (.iconst 1, 1) := by decide +kernel
theorem d_rp_without_2 : decode prog_1_method_21_code 2 = .ok (.iload_n 1, 1) := by decide +kernel
theorem d_rp_without_3 : decode prog_1_method_21_code 3 = .ok (.ishl, 1) := by decide +kernel
theorem d_rp_without_4 : decode prog_1_method_21_code 4 = .ok (.iconst (-1), 1) := by decide +kernel
theorem d_rp_without_5 : decode prog_1_method_21_code 5 = .ok (.ixor, 1) := by decide +kernel
theorem d_rp_without_6 : decode prog_1_method_21_code 6 = .ok (.iand, 1) := by decide +kernel
theorem d_rp_without_7 : decode prog_1_method_21_code 7 = .ok (.ireturn, 1) := by decide +kernel
end
section
theorem d_rp_codeShift_0 : decode prog_1_method_22_code 0 = .ok (.iconst 2, 1) := by decide +kernel
theorem d_rp_codeShift_1 : decode prog_1_method_22_code 1 = .ok (.bipush 6, 2) := by decide +kernel
theorem d_rp_codeShift_3 : decode prog_1_method_22_code 3 = .ok (.iload_n 0, 1) := by decide +kernel
theorem d_rp_codeShift_4 : decode prog_1_method_22_code 4 = .ok (.isub, 1) := by decide +kernel
theorem d_rp_codeShift_5 : decode prog_1_method_22_code 5 = .ok (.imul, 1) := by decide +kernel
theorem d_rp_codeShift_6 : decode prog_1_method_22_code 6 = .ok (.ireturn, 1) := by decide +kernel
theorem d_rp_costIn_0 : decode prog_1_method_23_code 0 = .ok (.lload_n 0, 1) := by decide +kernel
theorem d_rp_costIn_1 : decode prog_1_method_23_code 1 = .ok (.bipush 14, 2) := by decide +kernel
theorem d_rp_costIn_3 : decode prog_1_method_23_code 3 = .ok (.lshr, 1) := by decide +kernel
theorem d_rp_costIn_4 : decode prog_1_method_23_code 4 = .ok (.lreturn, 1) := by decide +kernel
theorem d_rp_vehicleIn_0 : decode prog_1_method_24_code 0 = .ok (.lload_n 0, 1) := by decide +kernel
theorem d_rp_vehicleIn_1 : decode prog_1_method_24_code 1 = .ok (.iload_n 2, 1) := by decide +kernel
theorem d_rp_vehicleIn_2 : decode prog_1_method_24_code 2 = .ok (.invokestatic 172, 3) := by decide +kernel
theorem d_rp_vehicleIn_5 : decode prog_1_method_24_code 5 = .ok (.lshr, 1) := by decide +kernel
theorem d_rp_vehicleIn_6 : decode prog_1_method_24_code 6 = .ok (.l2i, 1) := by decide +kernel
theorem d_rp_vehicleIn_7 : decode prog_1_method_24_code 7 = .ok (.iconst 3, 1) := by decide +kernel
theorem d_rp_vehicleIn_8 : decode prog_1_method_24_code 8 = .ok (.iand, 1) := by decide +kernel
theorem d_rp_vehicleIn_9 : decode prog_1_method_24_code 9 = .ok (.ireturn, 1) := by decide +kernel
theorem d_rp_setIn_0 : decode prog_1_method_25_code 0 = .ok (.iconst 0, 1) := by decide +kernel
theorem d_rp_setIn_1 : decode prog_1_method_25_code 1 = .ok (.istore 4, 2) := by decide +kernel
theorem d_rp_setIn_3 : decode prog_1_method_25_code 3 = .ok (.iconst 0, 1) := by decide +kernel
theorem d_rp_setIn_4 : decode prog_1_method_25_code 4 = .ok (.istore 5, 2) := by decide +kernel
theorem d_rp_setIn_6 : decode prog_1_method_25_code 6 = .ok (.iload 5, 2) := by decide +kernel
theorem d_rp_setIn_8 : decode prog_1_method_25_code 8 = .ok (.iload_n 3, 1) := by decide +kernel
theorem d_rp_setIn_9 : decode prog_1_method_25_code 9 = .ok (.if_icmp .ge 28, 3) := by decide +kernel
theorem d_rp_setIn_12 : decode prog_1_method_25_code 12 = .ok (.lload_n 0, 1) := by decide +kernel
theorem d_rp_setIn_13 : decode prog_1_method_25_code 13 = .ok (.iload 5, 2) := by decide +kernel
theorem d_rp_setIn_15 : decode prog_1_method_25_code 15 = .ok (.invokestatic 175, 3) := by decide +kernel
theorem d_rp_setIn_18 : decode prog_1_method_25_code 18 = .ok (.iload_n 2, 1) := by decide +kernel
theorem d_rp_setIn_19 : decode prog_1_method_25_code 19 = .ok (.if_icmp .ne 12, 3) := by decide +kernel
theorem d_rp_setIn_22 : decode prog_1_method_25_code 22 = .ok (.iload 4, 2) := by decide +kernel
theorem d_rp_setIn_24 : decode prog_1_method_25_code 24 = .ok (.iload 5, 2) := by decide +kernel
theorem d_rp_setIn_26 : decode prog_1_method_25_code 26 = .ok (.invokestatic 179, 3) := by decide +kernel
theorem d_rp_setIn_29 : decode prog_1_method_25_code 29 = .ok (.istore 4, 2) := by decide +kernel
theorem d_rp_setIn_31 : decode prog_1_method_25_code 31 = .ok (.iinc 5 1, 3) := by decide +kernel
theorem d_rp_setIn_34 : decode prog_1_method_25_code 34 = .ok (.goto (-28), 3) := by decide +kernel
theorem d_rp_setIn_37 : decode prog_1_method_25_code 37 = .ok (.iload 4, 2) := by decide +kernel
theorem d_rp_setIn_39 : decode prog_1_method_25_code 39 = .ok (.ireturn, 1) := by decide +kernel
theorem d_md_init_0 : decode prog_7_method_1_code 0 = .ok (.aload_n 0, 1) := by decide +kernel
theorem d_md_init_1 : decode prog_7_method_1_code 1 = .ok (.invokespecial 1, 3) := by decide +kernel
theorem d_md_init_4 : decode prog_7_method_1_code 4 = .ok (.aload_n 0, 1) := by decide +kernel
theorem d_md_init_5 : decode prog_7_method_1_code 5 = .ok (.bipush 7, 2) := by decide +kernel
theorem d_md_init_7 : decode prog_7_method_1_code 7 = .ok (.newarray .int, 2) := by decide +kernel
theorem d_md_init_9 : decode prog_7_method_1_code 9 = .ok (.putfield 7, 3) := by decide +kernel
theorem d_md_init_12 : decode prog_7_method_1_code 12 = .ok (.aload_n 0, 1) := by decide +kernel
theorem d_md_init_13 : decode prog_7_method_1_code 13 = .ok (.bipush 7, 2) := by decide +kernel
theorem d_md_init_15 : decode prog_7_method_1_code 15 = .ok (.newarray .int, 2) := by decide +kernel
theorem d_md_init_17 : decode prog_7_method_1_code 17 = .ok (.putfield 13, 3) := by decide +kernel
theorem d_md_init_20 : decode prog_7_method_1_code 20 = .ok (.aload_n 0, 1) := by decide +kernel
theorem d_md_init_21 : decode prog_7_method_1_code 21 = .ok (.bipush 7, 2) := by decide +kernel
theorem d_md_init_23 : decode prog_7_method_1_code 23 = .ok (.newarray .int, 2) := by decide +kernel
theorem d_md_init_25 : decode prog_7_method_1_code 25 = .ok (.putfield 16, 3) := by decide +kernel
theorem d_md_init_28 : decode prog_7_method_1_code 28 = .ok (.aload_n 0, 1) := by decide +kernel
theorem d_md_init_29 : decode prog_7_method_1_code 29 = .ok (.bipush 7, 2) := by decide +kernel
theorem d_md_init_31 : decode prog_7_method_1_code 31 = .ok (.newarray .int, 2) := by decide +kernel
theorem d_md_init_33 : decode prog_7_method_1_code 33 = .ok (.putfield 19, 3) := by decide +kernel
theorem d_md_init_36 : decode prog_7_method_1_code 36 = .ok (.aload_n 0, 1) := by decide +kernel
theorem d_md_init_37 : decode prog_7_method_1_code 37 = .ok (.bipush 7, 2) := by decide +kernel
theorem d_md_init_39 : decode prog_7_method_1_code 39 = .ok (.newarray .long, 2) := by decide +kernel
theorem d_md_init_41 : decode prog_7_method_1_code 41 = .ok (.putfield 22, 3) := by decide +kernel
theorem d_md_init_44 : decode prog_7_method_1_code 44 = .ok (.aload_n 0, 1) := by decide +kernel
theorem d_md_init_45 : decode prog_7_method_1_code 45 = .ok (.bipush 7, 2) := by decide +kernel
theorem d_md_init_47 : decode prog_7_method_1_code 47 = .ok (.newarray .int, 2) := by decide +kernel
theorem d_md_init_49 : decode prog_7_method_1_code 49 = .ok (.putfield 26, 3) := by decide +kernel
theorem d_md_init_52 : decode prog_7_method_1_code 52 = .ok (.aload_n 0, 1) := by decide +kernel
theorem d_md_init_53 : decode prog_7_method_1_code 53 = .ok (.bipush 49, 2) := by decide +kernel
theorem d_md_init_55 : decode prog_7_method_1_code 55 = .ok (.newarray .boolean, 2) := by decide +kernel
theorem d_md_init_57 : decode prog_7_method_1_code 57 = .ok (.putfield 29, 3) := by decide +kernel
theorem d_md_init_60 : decode prog_7_method_1_code 60 = .ok (.aload_n 0, 1) := by decide +kernel
theorem d_md_init_61 : decode prog_7_method_1_code 61 = .ok (.bipush 49, 2) := by decide +kernel
theorem d_md_init_63 : decode prog_7_method_1_code 63 = .ok (.newarray .boolean, 2) := by decide +kernel
theorem d_md_init_65 : decode prog_7_method_1_code 65 = .ok (.putfield 33, 3) := by decide +kernel
theorem d_md_init_68 : decode prog_7_method_1_code 68 = .ok (.aload_n 0, 1) := by decide +kernel
theorem d_md_init_69 : decode prog_7_method_1_code 69 = .ok (.iconst 3, 1) := by decide +kernel
theorem d_md_init_70 : decode prog_7_method_1_code 70 = .ok (.newarray .int, 2) := by decide +kernel
theorem d_md_init_72 : decode prog_7_method_1_code 72 = .ok (.putfield 36, 3) := by decide +kernel
theorem d_md_init_75 : decode prog_7_method_1_code 75 = .ok (.aload_n 0, 1) := by decide +kernel
theorem d_md_init_76 : decode prog_7_method_1_code 76 = .ok (.iconst 3, 1) := by decide +kernel
theorem d_md_init_77 : decode prog_7_method_1_code 77 = .ok (.newarray .int, 2) := by decide +kernel
theorem d_md_init_79 : decode prog_7_method_1_code 79 = .ok (.putfield 39, 3) := by decide +kernel
theorem d_md_init_82 : decode prog_7_method_1_code 82 = .ok (.aload_n 0, 1) := by decide +kernel
theorem d_md_init_83 : decode prog_7_method_1_code 83 = .ok (.iconst 3, 1) := by decide +kernel
theorem d_md_init_84 : decode prog_7_method_1_code 84 = .ok (.newarray .int, 2) := by decide +kernel
theorem d_md_init_86 : decode prog_7_method_1_code 86 = .ok (.putfield 42, 3) := by decide +kernel
theorem d_md_init_89 : decode prog_7_method_1_code 89 = .ok (.aload_n 0, 1) := by decide +kernel
theorem d_md_init_90 : decode prog_7_method_1_code 90 = .ok (.iconst 3, 1) := by decide +kernel
theorem d_md_init_91 : decode prog_7_method_1_code 91 = .ok (.newarray .int, 2) := by decide +kernel
theorem d_md_init_93 : decode prog_7_method_1_code 93 = .ok (.putfield 45, 3) := by decide +kernel
theorem d_md_init_96 : decode prog_7_method_1_code 96 = .ok (.aload_n 0, 1) := by decide +kernel
theorem d_md_init_97 : decode prog_7_method_1_code 97 = .ok (.bipush 64, 2) := by decide +kernel
theorem d_md_init_99 : decode prog_7_method_1_code 99 = .ok (.newarray .int, 2) := by decide +kernel
theorem d_md_init_101 : decode prog_7_method_1_code 101 = .ok (.putfield 48, 3) := by decide +kernel
theorem d_md_init_104 : decode prog_7_method_1_code 104 = .ok (.aload_n 0, 1) := by decide +kernel
theorem d_md_init_105 : decode prog_7_method_1_code 105 = .ok (.sipush 384, 3) := by decide +kernel
theorem d_md_init_108 : decode prog_7_method_1_code 108 = .ok (.newarray .int, 2) := by decide +kernel
theorem d_md_init_110 : decode prog_7_method_1_code 110 = .ok (.putfield 51, 3) := by decide +kernel
theorem d_md_init_113 : decode prog_7_method_1_code 113 = .ok (.aload_n 0, 1) := by decide +kernel
theorem d_md_init_114 : decode prog_7_method_1_code 114 = .ok (.sipush 384, 3) := by decide +kernel
theorem d_md_init_117 : decode prog_7_method_1_code 117 = .ok (.newarray .int, 2) := by decide +kernel
theorem d_md_init_119 : decode prog_7_method_1_code 119 = .ok (.putfield 54, 3) := by decide +kernel
theorem d_md_init_122 : decode prog_7_method_1_code 122 = .ok (.aload_n 0, 1) := by decide +kernel
theorem d_md_init_123 : decode prog_7_method_1_code 123 = .ok (.bipush 7, 2) := by decide +kernel
theorem d_md_init_125 : decode prog_7_method_1_code 125 = .ok (.newarray .int, 2) := by decide +kernel
theorem d_md_init_127 : decode prog_7_method_1_code 127 = .ok (.putfield 57, 3) := by decide +kernel
theorem d_md_init_130 : decode prog_7_method_1_code 130 = .ok (.aload_n 0, 1) := by decide +kernel
theorem d_md_init_131 : decode prog_7_method_1_code 131 = .ok (.bipush 7, 2) := by decide +kernel
theorem d_md_init_133 : decode prog_7_method_1_code 133 = .ok (.newarray .int, 2) := by decide +kernel
theorem d_md_init_135 : decode prog_7_method_1_code 135 = .ok (.putfield 60, 3) := by decide +kernel
theorem d_md_init_138 : decode prog_7_method_1_code 138 = .ok (.aload_n 0, 1) := by decide +kernel
theorem d_md_init_139 : decode prog_7_method_1_code 139 = .ok (.bipush 7, 2) := by decide +kernel
theorem d_md_init_141 : decode prog_7_method_1_code 141 = .ok (.newarray .int, 2) := by decide +kernel
theorem d_md_init_143 : decode prog_7_method_1_code 143 = .ok (.putfield 63, 3) := by decide +kernel
theorem d_md_init_146 : decode prog_7_method_1_code 146 = .ok (.aload_n 0, 1) := by decide +kernel
theorem d_md_init_147 : decode prog_7_method_1_code 147 = .ok (.iconst 3, 1) := by decide +kernel
theorem d_md_init_148 : decode prog_7_method_1_code 148 = .ok (.newarray .int, 2) := by decide +kernel
theorem d_md_init_150 : decode prog_7_method_1_code 150 = .ok (.putfield 66, 3) := by decide +kernel
theorem d_md_init_153 : decode prog_7_method_1_code 153 = .ok (.aload_n 0, 1) := by decide +kernel
theorem d_md_init_154 : decode prog_7_method_1_code 154 = .ok (.iconst 3, 1) := by decide +kernel
theorem d_md_init_155 : decode prog_7_method_1_code 155 = .ok (.newarray .int, 2) := by decide +kernel
theorem d_md_init_157 : decode prog_7_method_1_code 157 = .ok (.putfield 69, 3) := by decide +kernel
theorem d_md_init_160 : decode prog_7_method_1_code 160 = .ok (.aload_n 0, 1) := by decide +kernel
theorem d_md_init_161 : decode prog_7_method_1_code 161 = .ok (.iconst 3, 1) := by decide +kernel
theorem d_md_init_162 : decode prog_7_method_1_code 162 = .ok (.newarray .int, 2) := by decide +kernel
theorem d_md_init_164 : decode prog_7_method_1_code 164 = .ok (.putfield 72, 3) := by decide +kernel
theorem d_md_init_167 : decode prog_7_method_1_code 167 = .ok (.aload_n 0, 1) := by decide +kernel
theorem d_md_init_168 : decode prog_7_method_1_code 168 = .ok (.iconst 3, 1) := by decide +kernel
theorem d_md_init_169 : decode prog_7_method_1_code 169 = .ok (.newarray .long, 2) := by decide +kernel
theorem d_md_init_171 : decode prog_7_method_1_code 171 = .ok (.putfield 75, 3) := by decide +kernel
theorem d_md_init_174 : decode prog_7_method_1_code 174 = .ok (.iconst 0, 1) := by decide +kernel
theorem d_md_init_175 : decode prog_7_method_1_code 175 = .ok (.istore_n 1, 1) := by decide +kernel
theorem d_md_init_176 : decode prog_7_method_1_code 176 = .ok (.iload_n 1, 1) := by decide +kernel
theorem d_md_init_177 : decode prog_7_method_1_code 177 = .ok (.bipush 64, 2) := by decide +kernel
theorem d_md_init_179 : decode prog_7_method_1_code 179 = .ok (.if_icmp .ge 17, 3) := by decide +kernel
theorem d_md_init_182 : decode prog_7_method_1_code 182 = .ok (.aload_n 0, 1) := by decide +kernel
theorem d_md_init_183 : decode prog_7_method_1_code 183 = .ok (.getfield 48, 3) := by decide +kernel
theorem d_md_init_186 : decode prog_7_method_1_code 186 = .ok (.iload_n 1, 1) := by decide +kernel
theorem d_md_init_187 : decode prog_7_method_1_code 187 = .ok (.bipush 100, 2) := by decide +kernel
theorem d_md_init_189 : decode prog_7_method_1_code 189 = .ok (.iastore, 1) := by decide +kernel
theorem d_md_init_190 : decode prog_7_method_1_code 190 = .ok (.iinc 1 1, 3) := by decide +kernel
theorem d_md_init_193 : decode prog_7_method_1_code 193 = .ok (.goto (-17), 3) := by decide +kernel
theorem d_md_init_196 : decode prog_7_method_1_code 196 = .ok (.return_, 1) := by decide +kernel
theorem d_md_isIn_0 : decode prog_7_method_3_code 0 = .ok (.lload_n 0, 1) := by decide +kernel
theorem d_md_isIn_1 : decode prog_7_method_3_code 1 = .ok (.lload_n 2, 1) := by decide +kernel
theorem d_md_isIn_2 : decode prog_7_method_3_code 2 = .ok (.lcmp, 1) := by decide +kernel
theorem d_md_isIn_3 : decode prog_7_method_3_code 3 = .ok (.ifCond .lt 14, 3) := by decide +kernel
theorem d_md_isIn_6 : decode prog_7_method_3_code 6 = .ok (.lload_n 0, 1) := by decide +kernel
theorem d_md_isIn_7 : decode prog_7_method_3_code 7 = .ok (.lload 4, 2) := by decide +kernel
theorem d_md_isIn_9 : decode prog_7_method_3_code 9 = .ok (.lcmp, 1) := by decide +kernel
theorem d_md_isIn_10 : decode prog_7_method_3_code 10 = .ok (.ifCond .gt 7, 3) := by decide +kernel
theorem d_md_isIn_13 : decode prog_7_method_3_code 13 = .ok (.iconst 1, 1) := by decide +kernel
theorem d_md_isIn_14 : decode prog_7_method_3_code 14 = .ok (.goto 4, 3) := by decide +kernel
theorem d_md_isIn_17 : decode prog_7_method_3_code 17 = .ok (.iconst 0, 1) := by decide +kernel
theorem d_md_isIn_18 : decode prog_7_method_3_code 18 = .ok (.ireturn, 1) := by decide +kernel
theorem d_md_isStop_0 : decode prog_7_method_4_code 0 = .ok (.iload_n 1, 1) := by decide +kernel
theorem d_md_isStop_1 : decode prog_7_method_4_code 1 = .ok (.ifCond .lt 15, 3) := by decide +kernel
theorem d_md_isStop_4 : decode prog_7_method_4_code 4 = .ok (.iload_n 1, 1) := by decide +kernel
theorem d_md_isStop_5 : decode prog_7_method_4_code 5 = .ok (.aload_n 0, 1) := by decide +kernel
theorem d_md_isStop_6 : decode prog_7_method_4_code 6 = .ok (.getfield 78, 3) := by decide +kernel
theorem d_md_isStop_9 : decode prog_7_method_4_code 9 = .ok (.if_icmp .ge 7, 3) := by decide +kernel
theorem d_md_isStop_12 : decode prog_7_method_4_code 12 = .ok (.iconst 1, 1) := by decide +kernel
theorem d_md_isStop_13 : decode prog_7_method_4_code 13 = .ok (.goto 4, 3) := by decide +kernel
theorem d_md_isStop_16 : decode prog_7_method_4_code 16 = .ok (.iconst 0, 1) := by decide +kernel
theorem d_md_isStop_17 : decode prog_7_method_4_code 17 = .ok (.ireturn, 1) := by decide +kernel
theorem d_md_arePair_0 : decode prog_7_method_5_code 0 = .ok (.aload_n 0, 1) := by decide +kernel
theorem d_md_arePair_1 : decode prog_7_method_5_code 1 = .ok (.iload_n 1, 1) := by decide +kernel
theorem d_md_arePair_2 : decode prog_7_method_5_code 2 = .ok (.invokevirtual 82, 3) := by decide +kernel
theorem d_md_arePair_5 : decode prog_7_method_5_code 5 = .ok (.ifCond .eq 20, 3) := by decide +kernel
theorem d_md_arePair_8 : decode prog_7_method_5_code 8 = .ok (.aload_n 0, 1) := by decide +kernel
theorem d_md_arePair_9 : decode prog_7_method_5_code 9 = .ok (.iload_n 2, 1) := by decide +kernel
theorem d_md_arePair_10 : decode prog_7_method_5_code 10 = .ok (.invokevirtual 82, 3) := by decide +kernel
theorem d_md_arePair_13 : decode prog_7_method_5_code 13 = .ok (.ifCond .eq 12, 3) := by decide +kernel
theorem d_md_arePair_16 : decode prog_7_method_5_code 16 = .ok (.iload_n 1, 1) := by decide +kernel
theorem d_md_arePair_17 : decode prog_7_method_5_code 17 = .ok (.iload_n 2, 1) := by decide +kernel
theorem d_md_arePair_18 : decode prog_7_method_5_code 18 = .ok (.if_icmp .eq 7, 3) := by decide +kernel
theorem d_md_arePair_21 : decode prog_7_method_5_code 21 = .ok (.iconst 1, 1) := by decide +kernel
theorem d_md_arePair_22 : decode prog_7_method_5_code 22 = .ok (.goto 4, 3) := by decide +kernel
theorem d_md_arePair_25 : decode prog_7_method_5_code 25 = .ok (.iconst 0, 1) := by decide +kernel
theorem d_md_arePair_26 : decode prog_7_method_5_code 26 = .ok (.ireturn, 1) := by decide +kernel
theorem d_md_stop_0 : decode prog_7_method_6_code 0 = .ok (.aload_n 0, 1) := by decide +kernel
theorem d_md_stop_1 : decode prog_7_method_6_code 1 = .ok (.getfield 78, 3) := by decide +kernel
theorem d_md_stop_4 : decode prog_7_method_6_code 4 = .ok (.bipush 7, 2) := by decide +kernel
theorem d_md_stop_6 : decode prog_7_method_6_code 6 = .ok (.if_icmp .eq 15, 3) := by decide +kernel
theorem d_md_stop_9 : decode prog_7_method_6_code 9 = .ok (.iload_n 1, 1) := by decide +kernel
theorem d_md_stop_10 : decode prog_7_method_6_code 10 = .ok (.i2l, 1) := by decide +kernel
theorem d_md_stop_11 : decode prog_7_method_6_code 11 = .ok (.lconst 0, 1) := by decide +kernel
theorem d_md_stop_12 : decode prog_7_method_6_code 12 = .ok (.ldc2_w 86, 3) := by decide +kernel
theorem d_md_stop_15 : decode prog_7_method_6_code 15 = .ok (.invokestatic 88, 3) := by decide +kernel
theorem d_md_stop_18 : decode prog_7_method_6_code 18 = .ok (.ifCond .ne 5, 3) := by decide +kernel
theorem d_md_stop_21 : decode prog_7_method_6_code 21 = .ok (.iconst (-1), 1) := by decide +kernel
theorem d_md_stop_22 : decode prog_7_method_6_code 22 = .ok (.ireturn, 1) := by decide +kernel
theorem d_md_stop_23 : decode prog_7_method_6_code 23 = .ok (.aload_n 0, 1) := by decide +kernel
theorem d_md_stop_24 : decode prog_7_method_6_code 24 = .ok (.getfield 7, 3) := by decide +kernel
theorem d_md_stop_27 : decode prog_7_method_6_code 27 = .ok (.aload_n 0, 1) := by decide +kernel
theorem d_md_stop_28 : decode prog_7_method_6_code 28 = .ok (.getfield 78, 3) := by decide +kernel
theorem d_md_stop_31 : decode prog_7_method_6_code 31 = .ok (.iload_n 1, 1) := by decide +kernel
theorem d_md_stop_32 : decode prog_7_method_6_code 32 = .ok (.iastore, 1) := by decide +kernel
theorem d_md_stop_33 : decode prog_7_method_6_code 33 = .ok (.aload_n 0, 1) := by decide +kernel
theorem d_md_stop_34 : decode prog_7_method_6_code 34 = .ok (.getfield 16, 3) := by decide +kernel
theorem d_md_stop_37 : decode prog_7_method_6_code 37 = .ok (.aload_n 0, 1) := by decide +kernel
theorem d_md_stop_38 : decode prog_7_method_6_code 38 = .ok (.getfield 78, 3) := by decide +kernel
theorem d_md_stop_41 : decode prog_7_method_6_code 41 = .ok (.ldc 92, 2) := by decide +kernel
theorem d_md_stop_43 : decode prog_7_method_6_code 43 = .ok (.iastore, 1) := by decide +kernel
theorem d_md_stop_44 : decode prog_7_method_6_code 44 = .ok (.aload_n 0, 1) := by decide +kernel
theorem d_md_stop_45 : decode prog_7_method_6_code 45 = .ok (.getfield 26, 3) := by decide +kernel
theorem d_md_stop_48 : decode prog_7_method_6_code 48 = .ok (.aload_n 0, 1) := by decide +kernel
theorem d_md_stop_49 : decode prog_7_method_6_code 49 = .ok (.getfield 78, 3) := by decide +kernel
theorem d_md_stop_52 : decode prog_7_method_6_code 52 = .ok (.iconst (-1), 1) := by decide +kernel
theorem d_md_stop_53 : decode prog_7_method_6_code 53 = .ok (.iastore, 1) := by decide +kernel
theorem d_md_stop_54 : decode prog_7_method_6_code 54 = .ok (.aload_n 0, 1) := by decide +kernel
theorem d_md_stop_55 : decode prog_7_method_6_code 55 = .ok (.dup, 1) := by decide +kernel
theorem d_md_stop_56 : decode prog_7_method_6_code 56 = .ok (.getfield 78, 3) := by decide +kernel
theorem d_md_stop_59 : decode prog_7_method_6_code 59 = .ok (.iconst 1, 1) := by decide +kernel
theorem d_md_stop_60 : decode prog_7_method_6_code 60 = .ok (.iadd, 1) := by decide +kernel
theorem d_md_stop_61 : decode prog_7_method_6_code 61 = .ok (.putfield 78, 3) := by decide +kernel
theorem d_md_stop_64 : decode prog_7_method_6_code 64 = .ok (.aload_n 0, 1) := by decide +kernel
theorem d_md_stop_65 : decode prog_7_method_6_code 65 = .ok (.getfield 78, 3) := by decide +kernel
theorem d_md_stop_68 : decode prog_7_method_6_code 68 = .ok (.iconst 1, 1) := by decide +kernel
theorem d_md_stop_69 : decode prog_7_method_6_code 69 = .ok (.isub, 1) := by decide +kernel
theorem d_md_stop_70 : decode prog_7_method_6_code 70 = .ok (.ireturn, 1) := by decide +kernel
theorem d_md_hours_0 : decode prog_7_method_7_code 0 = .ok (.aload_n 0, 1) := by decide +kernel
theorem d_md_hours_1 : decode prog_7_method_7_code 1 = .ok (.iload_n 1, 1) := by decide +kernel
theorem d_md_hours_2 : decode prog_7_method_7_code 2 = .ok (.invokevirtual 82, 3) := by decide +kernel
theorem d_md_hours_5 : decode prog_7_method_7_code 5 = .ok (.ifCond .eq 41, 3) := by decide +kernel
theorem d_md_hours_8 : decode prog_7_method_7_code 8 = .ok (.iload_n 2, 1) := by decide +kernel
theorem d_md_hours_9 : decode prog_7_method_7_code 9 = .ok (.i2l, 1) := by decide +kernel
theorem d_md_hours_10 : decode prog_7_method_7_code 10 = .ok (.lconst 0, 1) := by decide +kernel
theorem d_md_hours_11 : decode prog_7_method_7_code 11 = .ok (.ldc2_w 93, 3) := by decide +kernel
theorem d_md_hours_14 : decode prog_7_method_7_code 14 = .ok (.invokestatic 88, 3) := by decide +kernel
theorem d_md_hours_17 : decode prog_7_method_7_code 17 = .ok (.ifCond .eq 29, 3) := by decide +kernel
theorem d_md_hours_20 : decode prog_7_method_7_code 20 = .ok (.iload_n 3, 1) := by decide +kernel
theorem d_md_hours_21 : decode prog_7_method_7_code 21 = .ok (.i2l, 1) := by decide +kernel
theorem d_md_hours_22 : decode prog_7_method_7_code 22 = .ok (.iload_n 2, 1) := by decide +kernel
theorem d_md_hours_23 : decode prog_7_method_7_code 23 = .ok (.i2l, 1) := by decide +kernel
theorem d_md_hours_24 : decode prog_7_method_7_code 24 = .ok (.ldc2_w 93, 3) := by decide +kernel
theorem d_md_hours_27 : decode prog_7_method_7_code 27 = .ok (.invokestatic 88, 3) := by decide +kernel
theorem d_md_hours_30 : decode prog_7_method_7_code 30 = .ok (.ifCond .eq 16, 3) := by decide +kernel
theorem d_md_hours_33 : decode prog_7_method_7_code 33 = .ok (.iload 4, 2) := by decide +kernel
theorem d_md_hours_35 : decode prog_7_method_7_code 35 = .ok (.i2l, 1) := by decide +kernel
theorem d_md_hours_36 : decode prog_7_method_7_code 36 = .ok (.lconst 0, 1) := by decide +kernel
theorem d_md_hours_37 : decode prog_7_method_7_code 37 = .ok (.ldc2_w 95, 3) := by decide +kernel
theorem d_md_hours_40 : decode prog_7_method_7_code 40 = .ok (.invokestatic 88, 3) := by decide +kernel
theorem d_md_hours_43 : decode prog_7_method_7_code 43 = .ok (.ifCond .ne 5, 3) := by decide +kernel
theorem d_md_hours_46 : decode prog_7_method_7_code 46 = .ok (.iconst 0, 1) := by decide +kernel
theorem d_md_hours_47 : decode prog_7_method_7_code 47 = .ok (.ireturn, 1) := by decide +kernel
theorem d_md_hours_48 : decode prog_7_method_7_code 48 = .ok (.aload_n 0, 1) := by decide +kernel
theorem d_md_hours_49 : decode prog_7_method_7_code 49 = .ok (.getfield 13, 3) := by decide +kernel
theorem d_md_hours_52 : decode prog_7_method_7_code 52 = .ok (.iload_n 1, 1) := by decide +kernel
theorem d_md_hours_53 : decode prog_7_method_7_code 53 = .ok (.iload_n 2, 1) := by decide +kernel
theorem d_md_hours_54 : decode prog_7_method_7_code 54 = .ok (.iastore, 1) := by decide +kernel
theorem d_md_hours_55 : decode prog_7_method_7_code 55 = .ok (.aload_n 0, 1) := by decide +kernel
theorem d_md_hours_56 : decode prog_7_method_7_code 56 = .ok (.getfield 16, 3) := by decide +kernel
theorem d_md_hours_59 : decode prog_7_method_7_code 59 = .ok (.iload_n 1, 1) := by decide +kernel
theorem d_md_hours_60 : decode prog_7_method_7_code 60 = .ok (.iload_n 3, 1) := by decide +kernel
theorem d_md_hours_61 : decode prog_7_method_7_code 61 = .ok (.iastore, 1) := by decide +kernel
theorem d_md_hours_62 : decode prog_7_method_7_code 62 = .ok (.aload_n 0, 1) := by decide +kernel
theorem d_md_hours_63 : decode prog_7_method_7_code 63 = .ok (.getfield 19, 3) := by decide +kernel
theorem d_md_hours_66 : decode prog_7_method_7_code 66 = .ok (.iload_n 1, 1) := by decide +kernel
theorem d_md_hours_67 : decode prog_7_method_7_code 67 = .ok (.iload 4, 2) := by decide +kernel
theorem d_md_hours_69 : decode prog_7_method_7_code 69 = .ok (.iastore, 1) := by decide +kernel
theorem d_md_hours_70 : decode prog_7_method_7_code 70 = .ok (.iconst 1, 1) := by decide +kernel
theorem d_md_hours_71 : decode prog_7_method_7_code 71 = .ok (.ireturn, 1) := by decide +kernel
theorem d_md_penalty_0 : decode prog_7_method_8_code 0 = .ok (.aload_n 0, 1) := by decide +kernel
theorem d_md_penalty_1 : decode prog_7_method_8_code 1 = .ok (.iload_n 1, 1) := by decide +kernel
theorem d_md_penalty_2 : decode prog_7_method_8_code 2 = .ok (.invokevirtual 82, 3) := by decide +kernel
theorem d_md_penalty_5 : decode prog_7_method_8_code 5 = .ok (.ifCond .eq 14, 3) := by decide +kernel
theorem d_md_penalty_8 : decode prog_7_method_8_code 8 = .ok (.lload_n 2, 1) := by decide +kernel
theorem d_md_penalty_9 : decode prog_7_method_8_code 9 = .ok (.lconst 0, 1) := by decide +kernel
theorem d_md_penalty_10 : decode prog_7_method_8_code 10 = .ok (.ldc2_w 97, 3) := by decide +kernel
theorem d_md_penalty_13 : decode prog_7_method_8_code 13 = .ok (.invokestatic 88, 3) := by decide +kernel
theorem d_md_penalty_16 : decode prog_7_method_8_code 16 = .ok (.ifCond .ne 5, 3) := by decide +kernel
theorem d_md_penalty_19 : decode prog_7_method_8_code 19 = .ok (.iconst 0, 1) := by decide +kernel
theorem d_md_penalty_20 : decode prog_7_method_8_code 20 = .ok (.ireturn, 1) := by decide +kernel
theorem d_md_penalty_21 : decode prog_7_method_8_code 21 = .ok (.aload_n 0, 1) := by decide +kernel
theorem d_md_penalty_22 : decode prog_7_method_8_code 22 = .ok (.getfield 22, 3) := by decide +kernel
theorem d_md_penalty_25 : decode prog_7_method_8_code 25 = .ok (.iload_n 1, 1) := by decide +kernel
theorem d_md_penalty_26 : decode prog_7_method_8_code 26 = .ok (.lload_n 2, 1) := by decide +kernel
theorem d_md_penalty_27 : decode prog_7_method_8_code 27 = .ok (.lastore, 1) := by decide +kernel
theorem d_md_penalty_28 : decode prog_7_method_8_code 28 = .ok (.iconst 1, 1) := by decide +kernel
theorem d_md_penalty_29 : decode prog_7_method_8_code 29 = .ok (.ireturn, 1) := by decide +kernel
theorem d_md_vehicle_0 : decode prog_7_method_9_code 0 = .ok (.aload_n 0, 1) := by decide +kernel
theorem d_md_vehicle_1 : decode prog_7_method_9_code 1 = .ok (.getfield 99, 3) := by decide +kernel
theorem d_md_vehicle_4 : decode prog_7_method_9_code 4 = .ok (.iconst 3, 1) := by decide +kernel
theorem d_md_vehicle_5 : decode prog_7_method_9_code 5 = .ok (.if_icmp .eq 53, 3) := by decide +kernel
theorem d_md_vehicle_8 : decode prog_7_method_9_code 8 = .ok (.iload_n 1, 1) := by decide +kernel
theorem d_md_vehicle_9 : decode prog_7_method_9_code 9 = .ok (.i2l, 1) := by decide +kernel
theorem d_md_vehicle_10 : decode prog_7_method_9_code 10 = .ok (.lconst 0, 1) := by decide +kernel
theorem d_md_vehicle_11 : decode prog_7_method_9_code 11 = .ok (.ldc2_w 102, 3) := by decide +kernel
theorem d_md_vehicle_14 : decode prog_7_method_9_code 14 = .ok (.invokestatic 88, 3) := by decide +kernel
theorem d_md_vehicle_17 : decode prog_7_method_9_code 17 = .ok (.ifCond .eq 41, 3) := by decide +kernel
theorem d_md_vehicle_20 : decode prog_7_method_9_code 20 = .ok (.iload_n 2, 1) := by decide +kernel
theorem d_md_vehicle_21 : decode prog_7_method_9_code 21 = .ok (.i2l, 1) := by decide +kernel
theorem d_md_vehicle_22 : decode prog_7_method_9_code 22 = .ok (.lconst 0, 1) := by decide +kernel
theorem d_md_vehicle_23 : decode prog_7_method_9_code 23 = .ok (.ldc2_w 93, 3) := by decide +kernel
theorem d_md_vehicle_26 : decode prog_7_method_9_code 26 = .ok (.invokestatic 88, 3) := by decide +kernel
theorem d_md_vehicle_29 : decode prog_7_method_9_code 29 = .ok (.ifCond .eq 29, 3) := by decide +kernel
theorem d_md_vehicle_32 : decode prog_7_method_9_code 32 = .ok (.iload_n 3, 1) := by decide +kernel
theorem d_md_vehicle_33 : decode prog_7_method_9_code 33 = .ok (.i2l, 1) := by decide +kernel
theorem d_md_vehicle_34 : decode prog_7_method_9_code 34 = .ok (.iload_n 2, 1) := by decide +kernel
theorem d_md_vehicle_35 : decode prog_7_method_9_code 35 = .ok (.i2l, 1) := by decide +kernel
theorem d_md_vehicle_36 : decode prog_7_method_9_code 36 = .ok (.ldc2_w 93, 3) := by decide +kernel
theorem d_md_vehicle_39 : decode prog_7_method_9_code 39 = .ok (.invokestatic 88, 3) := by decide +kernel
theorem d_md_vehicle_42 : decode prog_7_method_9_code 42 = .ok (.ifCond .eq 16, 3) := by decide +kernel
theorem d_md_vehicle_45 : decode prog_7_method_9_code 45 = .ok (.iload 4, 2) := by decide +kernel
theorem d_md_vehicle_47 : decode prog_7_method_9_code 47 = .ok (.i2l, 1) := by decide +kernel
theorem d_md_vehicle_48 : decode prog_7_method_9_code 48 = .ok (.lconst 0, 1) := by decide +kernel
theorem d_md_vehicle_49 : decode prog_7_method_9_code 49 = .ok (.ldc2_w 104, 3) := by decide +kernel
theorem d_md_vehicle_52 : decode prog_7_method_9_code 52 = .ok (.invokestatic 88, 3) := by decide +kernel
theorem d_md_vehicle_55 : decode prog_7_method_9_code 55 = .ok (.ifCond .ne 5, 3) := by decide +kernel
theorem d_md_vehicle_58 : decode prog_7_method_9_code 58 = .ok (.iconst (-1), 1) := by decide +kernel
theorem d_md_vehicle_59 : decode prog_7_method_9_code 59 = .ok (.ireturn, 1) := by decide +kernel
theorem d_md_vehicle_60 : decode prog_7_method_9_code 60 = .ok (.aload_n 0, 1) := by decide +kernel
theorem d_md_vehicle_61 : decode prog_7_method_9_code 61 = .ok (.getfield 36, 3) := by decide +kernel
theorem d_md_vehicle_64 : decode prog_7_method_9_code 64 = .ok (.aload_n 0, 1) := by decide +kernel
theorem d_md_vehicle_65 : decode prog_7_method_9_code 65 = .ok (.getfield 99, 3) := by decide +kernel
theorem d_md_vehicle_68 : decode prog_7_method_9_code 68 = .ok (.iload_n 1, 1) := by decide +kernel
theorem d_md_vehicle_69 : decode prog_7_method_9_code 69 = .ok (.iastore, 1) := by decide +kernel
theorem d_md_vehicle_70 : decode prog_7_method_9_code 70 = .ok (.aload_n 0, 1) := by decide +kernel
theorem d_md_vehicle_71 : decode prog_7_method_9_code 71 = .ok (.getfield 39, 3) := by decide +kernel
theorem d_md_vehicle_74 : decode prog_7_method_9_code 74 = .ok (.aload_n 0, 1) := by decide +kernel
theorem d_md_vehicle_75 : decode prog_7_method_9_code 75 = .ok (.getfield 99, 3) := by decide +kernel
theorem d_md_vehicle_78 : decode prog_7_method_9_code 78 = .ok (.iload_n 2, 1) := by decide +kernel
theorem d_md_vehicle_79 : decode prog_7_method_9_code 79 = .ok (.iastore, 1) := by decide +kernel
theorem d_md_vehicle_80 : decode prog_7_method_9_code 80 = .ok (.aload_n 0, 1) := by decide +kernel
theorem d_md_vehicle_81 : decode prog_7_method_9_code 81 = .ok (.getfield 42, 3) := by decide +kernel
theorem d_md_vehicle_84 : decode prog_7_method_9_code 84 = .ok (.aload_n 0, 1) := by decide +kernel
theorem d_md_vehicle_85 : decode prog_7_method_9_code 85 = .ok (.getfield 99, 3) := by decide +kernel
theorem d_md_vehicle_88 : decode prog_7_method_9_code 88 = .ok (.iload_n 3, 1) := by decide +kernel
theorem d_md_vehicle_89 : decode prog_7_method_9_code 89 = .ok (.iastore, 1) := by decide +kernel
theorem d_md_vehicle_90 : decode prog_7_method_9_code 90 = .ok (.aload_n 0, 1) := by decide +kernel
theorem d_md_vehicle_91 : decode prog_7_method_9_code 91 = .ok (.getfield 45, 3) := by decide +kernel
theorem d_md_vehicle_94 : decode prog_7_method_9_code 94 = .ok (.aload_n 0, 1) := by decide +kernel
theorem d_md_vehicle_95 : decode prog_7_method_9_code 95 = .ok (.getfield 99, 3) := by decide +kernel
theorem d_md_vehicle_98 : decode prog_7_method_9_code 98 = .ok (.iload 4, 2) := by decide +kernel
theorem d_md_vehicle_100 : decode prog_7_method_9_code 100 = .ok (.iastore, 1) := by decide +kernel
theorem d_md_vehicle_101 : decode prog_7_method_9_code 101 = .ok (.aload_n 0, 1) := by decide +kernel
theorem d_md_vehicle_102 : decode prog_7_method_9_code 102 = .ok (.dup, 1) := by decide +kernel
theorem d_md_vehicle_103 : decode prog_7_method_9_code 103 = .ok (.getfield 99, 3) := by decide +kernel
theorem d_md_vehicle_106 : decode prog_7_method_9_code 106 = .ok (.iconst 1, 1) := by decide +kernel
theorem d_md_vehicle_107 : decode prog_7_method_9_code 107 = .ok (.iadd, 1) := by decide +kernel
theorem d_md_vehicle_108 : decode prog_7_method_9_code 108 = .ok (.putfield 99, 3) := by decide +kernel
theorem d_md_vehicle_111 : decode prog_7_method_9_code 111 = .ok (.aload_n 0, 1) := by decide +kernel
theorem d_md_vehicle_112 : decode prog_7_method_9_code 112 = .ok (.getfield 99, 3) := by decide +kernel
theorem d_md_vehicle_115 : decode prog_7_method_9_code 115 = .ok (.iconst 1, 1) := by decide +kernel
theorem d_md_vehicle_116 : decode prog_7_method_9_code 116 = .ok (.isub, 1) := by decide +kernel
theorem d_md_vehicle_117 : decode prog_7_method_9_code 117 = .ok (.ireturn, 1) := by decide +kernel
theorem d_md_way_0 : decode prog_7_method_10_code 0 = .ok (.iload_n 1, 1) := by decide +kernel
theorem d_md_way_1 : decode prog_7_method_10_code 1 = .ok (.i2l, 1) := by decide +kernel
theorem d_md_way_2 : decode prog_7_method_10_code 2 = .ok (.lconst 0, 1) := by decide +kernel
theorem d_md_way_3 : decode prog_7_method_10_code 3 = .ok (.ldc2_w 106, 3) := by decide +kernel
theorem d_md_way_6 : decode prog_7_method_10_code 6 = .ok (.invokestatic 88, 3) := by decide +kernel
theorem d_md_way_9 : decode prog_7_method_10_code 9 = .ok (.ifCond .eq 32, 3) := by decide +kernel
theorem d_md_way_12 : decode prog_7_method_10_code 12 = .ok (.iload_n 2, 1) := by decide +kernel
theorem d_md_way_13 : decode prog_7_method_10_code 13 = .ok (.i2l, 1) := by decide +kernel
theorem d_md_way_14 : decode prog_7_method_10_code 14 = .ok (.lconst 0, 1) := by decide +kernel
theorem d_md_way_15 : decode prog_7_method_10_code 15 = .ok (.ldc2_w 106, 3) := by decide +kernel
theorem d_md_way_18 : decode prog_7_method_10_code 18 = .ok (.invokestatic 88, 3) := by decide +kernel
theorem d_md_way_21 : decode prog_7_method_10_code 21 = .ok (.ifCond .eq 20, 3) := by decide +kernel
theorem d_md_way_24 : decode prog_7_method_10_code 24 = .ok (.iload_n 1, 1) := by decide +kernel
theorem d_md_way_25 : decode prog_7_method_10_code 25 = .ok (.iload_n 2, 1) := by decide +kernel
theorem d_md_way_26 : decode prog_7_method_10_code 26 = .ok (.if_icmp .eq 15, 3) := by decide +kernel
theorem d_md_way_29 : decode prog_7_method_10_code 29 = .ok (.iload_n 3, 1) := by decide +kernel
theorem d_md_way_30 : decode prog_7_method_10_code 30 = .ok (.i2l, 1) := by decide +kernel
theorem d_md_way_31 : decode prog_7_method_10_code 31 = .ok (.lconst 0, 1) := by decide +kernel
theorem d_md_way_32 : decode prog_7_method_10_code 32 = .ok (.ldc2_w 108, 3) := by decide +kernel
theorem d_md_way_35 : decode prog_7_method_10_code 35 = .ok (.invokestatic 88, 3) := by decide +kernel
theorem d_md_way_38 : decode prog_7_method_10_code 38 = .ok (.ifCond .ne 5, 3) := by decide +kernel
theorem d_md_way_41 : decode prog_7_method_10_code 41 = .ok (.iconst 0, 1) := by decide +kernel
theorem d_md_way_42 : decode prog_7_method_10_code 42 = .ok (.ireturn, 1) := by decide +kernel
theorem d_md_way_43 : decode prog_7_method_10_code 43 = .ok (.aload_n 0, 1) := by decide +kernel
theorem d_md_way_44 : decode prog_7_method_10_code 44 = .ok (.getfield 48, 3) := by decide +kernel
theorem d_md_way_47 : decode prog_7_method_10_code 47 = .ok (.bipush 8, 2) := by decide +kernel
theorem d_md_way_49 : decode prog_7_method_10_code 49 = .ok (.iload_n 1, 1) := by decide +kernel
theorem d_md_way_50 : decode prog_7_method_10_code 50 = .ok (.imul, 1) := by decide +kernel
theorem d_md_way_51 : decode prog_7_method_10_code 51 = .ok (.iload_n 2, 1) := by decide +kernel
theorem d_md_way_52 : decode prog_7_method_10_code 52 = .ok (.iadd, 1) := by decide +kernel
theorem d_md_way_53 : decode prog_7_method_10_code 53 = .ok (.iload_n 3, 1) := by decide +kernel
theorem d_md_way_54 : decode prog_7_method_10_code 54 = .ok (.iastore, 1) := by decide +kernel
theorem d_md_way_55 : decode prog_7_method_10_code 55 = .ok (.iconst 1, 1) := by decide +kernel
theorem d_md_way_56 : decode prog_7_method_10_code 56 = .ok (.ireturn, 1) := by decide +kernel
theorem d_md_fixed_0 : decode prog_7_method_11_code 0 = .ok (.aload_n 0, 1) := by decide +kernel
theorem d_md_fixed_1 : decode prog_7_method_11_code 1 = .ok (.iload_n 1, 1) := by decide +kernel
theorem d_md_fixed_2 : decode prog_7_method_11_code 2 = .ok (.invokevirtual 82, 3) := by decide +kernel
theorem d_md_fixed_5 : decode prog_7_method_11_code 5 = .ok (.ifCond .eq 16, 3) := by decide +kernel
theorem d_md_fixed_8 : decode prog_7_method_11_code 8 = .ok (.iload_n 2, 1) := by decide +kernel
theorem d_md_fixed_9 : decode prog_7_method_11_code 9 = .ok (.iconst (-1), 1) := by decide +kernel
theorem d_md_fixed_10 : decode prog_7_method_11_code 10 = .ok (.if_icmp .lt 11, 3) := by decide +kernel
theorem d_md_fixed_13 : decode prog_7_method_11_code 13 = .ok (.iload_n 2, 1) := by decide +kernel
theorem d_md_fixed_14 : decode prog_7_method_11_code 14 = .ok (.aload_n 0, 1) := by decide +kernel
theorem d_md_fixed_15 : decode prog_7_method_11_code 15 = .ok (.getfield 99, 3) := by decide +kernel
theorem d_md_fixed_18 : decode prog_7_method_11_code 18 = .ok (.if_icmp .lt 5, 3) := by decide +kernel
theorem d_md_fixed_21 : decode prog_7_method_11_code 21 = .ok (.iconst 0, 1) := by decide +kernel
theorem d_md_fixed_22 : decode prog_7_method_11_code 22 = .ok (.ireturn, 1) := by decide +kernel
theorem d_md_fixed_23 : decode prog_7_method_11_code 23 = .ok (.aload_n 0, 1) := by decide +kernel
theorem d_md_fixed_24 : decode prog_7_method_11_code 24 = .ok (.getfield 26, 3) := by decide +kernel
theorem d_md_fixed_27 : decode prog_7_method_11_code 27 = .ok (.iload_n 1, 1) := by decide +kernel
theorem d_md_fixed_28 : decode prog_7_method_11_code 28 = .ok (.iload_n 2, 1) := by decide +kernel
theorem d_md_fixed_29 : decode prog_7_method_11_code 29 = .ok (.iastore, 1) := by decide +kernel
theorem d_md_fixed_30 : decode prog_7_method_11_code 30 = .ok (.iconst 1, 1) := by decide +kernel
theorem d_md_fixed_31 : decode prog_7_method_11_code 31 = .ok (.ireturn, 1) := by decide +kernel
theorem d_md_apart_0 : decode prog_7_method_12_code 0 = .ok (.aload_n 0, 1) := by decide +kernel
theorem d_md_apart_1 : decode prog_7_method_12_code 1 = .ok (.iload_n 1, 1) := by decide +kernel
theorem d_md_apart_2 : decode prog_7_method_12_code 2 = .ok (.iload_n 2, 1) := by decide +kernel
theorem d_md_apart_3 : decode prog_7_method_12_code 3 = .ok (.invokevirtual 110, 3) := by decide +kernel
theorem d_md_apart_6 : decode prog_7_method_12_code 6 = .ok (.ifCond .ne 5, 3) := by decide +kernel
theorem d_md_apart_9 : decode prog_7_method_12_code 9 = .ok (.iconst 0, 1) := by decide +kernel
theorem d_md_apart_10 : decode prog_7_method_12_code 10 = .ok (.ireturn, 1) := by decide +kernel
theorem d_md_apart_11 : decode prog_7_method_12_code 11 = .ok (.aload_n 0, 1) := by decide +kernel
theorem d_md_apart_12 : decode prog_7_method_12_code 12 = .ok (.getfield 29, 3) := by decide +kernel
theorem d_md_apart_15 : decode prog_7_method_12_code 15 = .ok (.bipush 7, 2) := by decide +kernel
theorem d_md_apart_17 : decode prog_7_method_12_code 17 = .ok (.iload_n 1, 1) := by decide +kernel
theorem d_md_apart_18 : decode prog_7_method_12_code 18 = .ok (.imul, 1) := by decide +kernel
theorem d_md_apart_19 : decode prog_7_method_12_code 19 = .ok (.iload_n 2, 1) := by decide +kernel
theorem d_md_apart_20 : decode prog_7_method_12_code 20 = .ok (.iadd, 1) := by decide +kernel
theorem d_md_apart_21 : decode prog_7_method_12_code 21 = .ok (.iload_n 3, 1) := by decide +kernel
theorem d_md_apart_22 : decode prog_7_method_12_code 22 = .ok (.bastore, 1) := by decide +kernel
theorem d_md_apart_23 : decode prog_7_method_12_code 23 = .ok (.aload_n 0, 1) := by decide +kernel
theorem d_md_apart_24 : decode prog_7_method_12_code 24 = .ok (.getfield 29, 3) := by decide +kernel
theorem d_md_apart_27 : decode prog_7_method_12_code 27 = .ok (.bipush 7, 2) := by decide +kernel
theorem d_md_apart_29 : decode prog_7_method_12_code 29 = .ok (.iload_n 2, 1) := by decide +kernel
theorem d_md_apart_30 : decode prog_7_method_12_code 30 = .ok (.imul, 1) := by decide +kernel
end
section
theorem d_md_apart_31 : decode prog_7_method_12_code 31 = .ok (.iload_n 1, 1) := by decide +kernel
theorem d_md_apart_32 : decode prog_7_method_12_code 32 = .ok (.iadd, 1) := by decide +kernel
theorem d_md_apart_33 : decode prog_7_method_12_code 33 = .ok (.iload_n 3, 1) := by decide +kernel
theorem d_md_apart_34 : decode prog_7_method_12_code 34 = .ok (.bastore, 1) := by decide +kernel
theorem d_md_apart_35 : decode prog_7_method_12_code 35 = .ok (.iconst 1, 1) := by decide +kernel
theorem d_md_apart_36 : decode prog_7_method_12_code 36 = .ok (.ireturn, 1) := by decide +kernel
theorem d_md_leads_0 : decode prog_7_method_13_code 0 = .ok (.iconst 1, 1) := by decide +kernel
theorem d_md_leads_1 : decode prog_7_method_13_code 1 = .ok (.iload_n 1, 1) := by decide +kernel
theorem d_md_leads_2 : decode prog_7_method_13_code 2 = .ok (.ishl, 1) := by decide +kernel
theorem d_md_leads_3 : decode prog_7_method_13_code 3 = .ok (.istore_n 3, 1) := by decide +kernel
theorem d_md_leads_4 : decode prog_7_method_13_code 4 = .ok (.iconst 0, 1) := by decide +kernel
theorem d_md_leads_5 : decode prog_7_method_13_code 5 = .ok (.istore 4, 2) := by decide +kernel
theorem d_md_leads_7 : decode prog_7_method_13_code 7 = .ok (.iload 4, 2) := by decide +kernel
theorem d_md_leads_9 : decode prog_7_method_13_code 9 = .ok (.aload_n 0, 1) := by decide +kernel
theorem d_md_leads_10 : decode prog_7_method_13_code 10 = .ok (.getfield 78, 3) := by decide +kernel
theorem d_md_leads_13 : decode prog_7_method_13_code 13 = .ok (.if_icmp .ge 82, 3) := by decide +kernel
theorem d_md_leads_16 : decode prog_7_method_13_code 16 = .ok (.iconst 0, 1) := by decide +kernel
theorem d_md_leads_17 : decode prog_7_method_13_code 17 = .ok (.istore 5, 2) := by decide +kernel
theorem d_md_leads_19 : decode prog_7_method_13_code 19 = .ok (.iload 5, 2) := by decide +kernel
theorem d_md_leads_21 : decode prog_7_method_13_code 21 = .ok (.aload_n 0, 1) := by decide +kernel
theorem d_md_leads_22 : decode prog_7_method_13_code 22 = .ok (.getfield 78, 3) := by decide +kernel
theorem d_md_leads_25 : decode prog_7_method_13_code 25 = .ok (.if_icmp .ge 64, 3) := by decide +kernel
theorem d_md_leads_28 : decode prog_7_method_13_code 28 = .ok (.iconst 0, 1) := by decide +kernel
theorem d_md_leads_29 : decode prog_7_method_13_code 29 = .ok (.istore 6, 2) := by decide +kernel
theorem d_md_leads_31 : decode prog_7_method_13_code 31 = .ok (.iload 6, 2) := by decide +kernel
theorem d_md_leads_33 : decode prog_7_method_13_code 33 = .ok (.aload_n 0, 1) := by decide +kernel
theorem d_md_leads_34 : decode prog_7_method_13_code 34 = .ok (.getfield 78, 3) := by decide +kernel
theorem d_md_leads_37 : decode prog_7_method_13_code 37 = .ok (.if_icmp .ge 46, 3) := by decide +kernel
theorem d_md_leads_40 : decode prog_7_method_13_code 40 = .ok (.iload_n 3, 1) := by decide +kernel
theorem d_md_leads_41 : decode prog_7_method_13_code 41 = .ok (.iload 5, 2) := by decide +kernel
theorem d_md_leads_43 : decode prog_7_method_13_code 43 = .ok (.ishr, 1) := by decide +kernel
theorem d_md_leads_44 : decode prog_7_method_13_code 44 = .ok (.iconst 1, 1) := by decide +kernel
theorem d_md_leads_45 : decode prog_7_method_13_code 45 = .ok (.iand, 1) := by decide +kernel
theorem d_md_leads_46 : decode prog_7_method_13_code 46 = .ok (.iconst 1, 1) := by decide +kernel
theorem d_md_leads_47 : decode prog_7_method_13_code 47 = .ok (.if_icmp .ne 36, 3) := by decide +kernel
theorem d_md_leads_50 : decode prog_7_method_13_code 50 = .ok (.iload_n 3, 1) := by decide +kernel
theorem d_md_leads_51 : decode prog_7_method_13_code 51 = .ok (.aload_n 0, 1) := by decide +kernel
theorem d_md_leads_52 : decode prog_7_method_13_code 52 = .ok (.getfield 33, 3) := by decide +kernel
theorem d_md_leads_55 : decode prog_7_method_13_code 55 = .ok (.bipush 7, 2) := by decide +kernel
theorem d_md_leads_57 : decode prog_7_method_13_code 57 = .ok (.iload 5, 2) := by decide +kernel
theorem d_md_leads_59 : decode prog_7_method_13_code 59 = .ok (.imul, 1) := by decide +kernel
theorem d_md_leads_60 : decode prog_7_method_13_code 60 = .ok (.iload 6, 2) := by decide +kernel
theorem d_md_leads_62 : decode prog_7_method_13_code 62 = .ok (.iadd, 1) := by decide +kernel
theorem d_md_leads_63 : decode prog_7_method_13_code 63 = .ok (.baload, 1) := by decide +kernel
theorem d_md_leads_64 : decode prog_7_method_13_code 64 = .ok (.ifCond .eq 10, 3) := by decide +kernel
theorem d_md_leads_67 : decode prog_7_method_13_code 67 = .ok (.iconst 1, 1) := by decide +kernel
theorem d_md_leads_68 : decode prog_7_method_13_code 68 = .ok (.iload 6, 2) := by decide +kernel
theorem d_md_leads_70 : decode prog_7_method_13_code 70 = .ok (.ishl, 1) := by decide +kernel
theorem d_md_leads_71 : decode prog_7_method_13_code 71 = .ok (.goto 4, 3) := by decide +kernel
theorem d_md_leads_74 : decode prog_7_method_13_code 74 = .ok (.iconst 0, 1) := by decide +kernel
theorem d_md_leads_75 : decode prog_7_method_13_code 75 = .ok (.ior, 1) := by decide +kernel
theorem d_md_leads_76 : decode prog_7_method_13_code 76 = .ok (.istore_n 3, 1) := by decide +kernel
theorem d_md_leads_77 : decode prog_7_method_13_code 77 = .ok (.iinc 6 1, 3) := by decide +kernel
theorem d_md_leads_80 : decode prog_7_method_13_code 80 = .ok (.goto (-49), 3) := by decide +kernel
theorem d_md_leads_83 : decode prog_7_method_13_code 83 = .ok (.iinc 5 1, 3) := by decide +kernel
theorem d_md_leads_86 : decode prog_7_method_13_code 86 = .ok (.goto (-67), 3) := by decide +kernel
theorem d_md_leads_89 : decode prog_7_method_13_code 89 = .ok (.iinc 4 1, 3) := by decide +kernel
theorem d_md_leads_92 : decode prog_7_method_13_code 92 = .ok (.goto (-85), 3) := by decide +kernel
theorem d_md_leads_95 : decode prog_7_method_13_code 95 = .ok (.iload_n 3, 1) := by decide +kernel
theorem d_md_leads_96 : decode prog_7_method_13_code 96 = .ok (.iload_n 2, 1) := by decide +kernel
theorem d_md_leads_97 : decode prog_7_method_13_code 97 = .ok (.ishr, 1) := by decide +kernel
theorem d_md_leads_98 : decode prog_7_method_13_code 98 = .ok (.iconst 1, 1) := by decide +kernel
theorem d_md_leads_99 : decode prog_7_method_13_code 99 = .ok (.iand, 1) := by decide +kernel
theorem d_md_leads_100 : decode prog_7_method_13_code 100 = .ok (.iconst 1, 1) := by decide +kernel
theorem d_md_leads_101 : decode prog_7_method_13_code 101 = .ok (.if_icmp .ne 7, 3) := by decide +kernel
theorem d_md_leads_104 : decode prog_7_method_13_code 104 = .ok (.iconst 1, 1) := by decide +kernel
theorem d_md_leads_105 : decode prog_7_method_13_code 105 = .ok (.goto 4, 3) := by decide +kernel
theorem d_md_leads_108 : decode prog_7_method_13_code 108 = .ok (.iconst 0, 1) := by decide +kernel
theorem d_md_leads_109 : decode prog_7_method_13_code 109 = .ok (.ireturn, 1) := by decide +kernel
theorem d_md_before_0 : decode prog_7_method_14_code 0 = .ok (.aload_n 0, 1) := by decide +kernel
theorem d_md_before_1 : decode prog_7_method_14_code 1 = .ok (.iload_n 1, 1) := by decide +kernel
theorem d_md_before_2 : decode prog_7_method_14_code 2 = .ok (.iload_n 2, 1) := by decide +kernel
theorem d_md_before_3 : decode prog_7_method_14_code 3 = .ok (.invokevirtual 110, 3) := by decide +kernel
theorem d_md_before_6 : decode prog_7_method_14_code 6 = .ok (.ifCond .eq 26, 3) := by decide +kernel
theorem d_md_before_9 : decode prog_7_method_14_code 9 = .ok (.aload_n 0, 1) := by decide +kernel
theorem d_md_before_10 : decode prog_7_method_14_code 10 = .ok (.getfield 33, 3) := by decide +kernel
theorem d_md_before_13 : decode prog_7_method_14_code 13 = .ok (.bipush 7, 2) := by decide +kernel
theorem d_md_before_15 : decode prog_7_method_14_code 15 = .ok (.iload_n 1, 1) := by decide +kernel
theorem d_md_before_16 : decode prog_7_method_14_code 16 = .ok (.imul, 1) := by decide +kernel
theorem d_md_before_17 : decode prog_7_method_14_code 17 = .ok (.iload_n 2, 1) := by decide +kernel
theorem d_md_before_18 : decode prog_7_method_14_code 18 = .ok (.iadd, 1) := by decide +kernel
theorem d_md_before_19 : decode prog_7_method_14_code 19 = .ok (.baload, 1) := by decide +kernel
theorem d_md_before_20 : decode prog_7_method_14_code 20 = .ok (.ifCond .ne 12, 3) := by decide +kernel
theorem d_md_before_23 : decode prog_7_method_14_code 23 = .ok (.aload_n 0, 1) := by decide +kernel
theorem d_md_before_24 : decode prog_7_method_14_code 24 = .ok (.iload_n 2, 1) := by decide +kernel
theorem d_md_before_25 : decode prog_7_method_14_code 25 = .ok (.iload_n 1, 1) := by decide +kernel
theorem d_md_before_26 : decode prog_7_method_14_code 26 = .ok (.invokevirtual 114, 3) := by decide +kernel
theorem d_md_before_29 : decode prog_7_method_14_code 29 = .ok (.ifCond .eq 5, 3) := by decide +kernel
theorem d_md_before_32 : decode prog_7_method_14_code 32 = .ok (.iconst 0, 1) := by decide +kernel
theorem d_md_before_33 : decode prog_7_method_14_code 33 = .ok (.ireturn, 1) := by decide +kernel
theorem d_md_before_34 : decode prog_7_method_14_code 34 = .ok (.aload_n 0, 1) := by decide +kernel
theorem d_md_before_35 : decode prog_7_method_14_code 35 = .ok (.getfield 33, 3) := by decide +kernel
theorem d_md_before_38 : decode prog_7_method_14_code 38 = .ok (.bipush 7, 2) := by decide +kernel
theorem d_md_before_40 : decode prog_7_method_14_code 40 = .ok (.iload_n 1, 1) := by decide +kernel
theorem d_md_before_41 : decode prog_7_method_14_code 41 = .ok (.imul, 1) := by decide +kernel
theorem d_md_before_42 : decode prog_7_method_14_code 42 = .ok (.iload_n 2, 1) := by decide +kernel
theorem d_md_before_43 : decode prog_7_method_14_code 43 = .ok (.iadd, 1) := by decide +kernel
theorem d_md_before_44 : decode prog_7_method_14_code 44 = .ok (.iconst 1, 1) := by decide +kernel
theorem d_md_before_45 : decode prog_7_method_14_code 45 = .ok (.bastore, 1) := by decide +kernel
theorem d_md_before_46 : decode prog_7_method_14_code 46 = .ok (.iconst 1, 1) := by decide +kernel
theorem d_md_before_47 : decode prog_7_method_14_code 47 = .ok (.ireturn, 1) := by decide +kernel
theorem d_md_mayFollow_0 : decode prog_7_method_15_code 0 = .ok (.aload_n 0, 1) := by decide +kernel
theorem d_md_mayFollow_1 : decode prog_7_method_15_code 1 = .ok (.getfield 26, 3) := by decide +kernel
theorem d_md_mayFollow_4 : decode prog_7_method_15_code 4 = .ok (.iload_n 3, 1) := by decide +kernel
theorem d_md_mayFollow_5 : decode prog_7_method_15_code 5 = .ok (.iaload, 1) := by decide +kernel
theorem d_md_mayFollow_6 : decode prog_7_method_15_code 6 = .ok (.iconst (-1), 1) := by decide +kernel
theorem d_md_mayFollow_7 : decode prog_7_method_15_code 7 = .ok (.if_icmp .eq 13, 3) := by decide +kernel
theorem d_md_mayFollow_10 : decode prog_7_method_15_code 10 = .ok (.aload_n 0, 1) := by decide +kernel
theorem d_md_mayFollow_11 : decode prog_7_method_15_code 11 = .ok (.getfield 26, 3) := by decide +kernel
theorem d_md_mayFollow_14 : decode prog_7_method_15_code 14 = .ok (.iload_n 3, 1) := by decide +kernel
theorem d_md_mayFollow_15 : decode prog_7_method_15_code 15 = .ok (.iaload, 1) := by decide +kernel
theorem d_md_mayFollow_16 : decode prog_7_method_15_code 16 = .ok (.iload_n 1, 1) := by decide +kernel
theorem d_md_mayFollow_17 : decode prog_7_method_15_code 17 = .ok (.if_icmp .ne 7, 3) := by decide +kernel
theorem d_md_mayFollow_20 : decode prog_7_method_15_code 20 = .ok (.iconst 1, 1) := by decide +kernel
theorem d_md_mayFollow_21 : decode prog_7_method_15_code 21 = .ok (.goto 4, 3) := by decide +kernel
theorem d_md_mayFollow_24 : decode prog_7_method_15_code 24 = .ok (.iconst 0, 1) := by decide +kernel
theorem d_md_mayFollow_25 : decode prog_7_method_15_code 25 = .ok (.istore 4, 2) := by decide +kernel
theorem d_md_mayFollow_27 : decode prog_7_method_15_code 27 = .ok (.iconst 0, 1) := by decide +kernel
theorem d_md_mayFollow_28 : decode prog_7_method_15_code 28 = .ok (.istore 5, 2) := by decide +kernel
theorem d_md_mayFollow_30 : decode prog_7_method_15_code 30 = .ok (.iload 5, 2) := by decide +kernel
theorem d_md_mayFollow_32 : decode prog_7_method_15_code 32 = .ok (.iload_n 2, 1) := by decide +kernel
theorem d_md_mayFollow_33 : decode prog_7_method_15_code 33 = .ok (.if_icmp .ge 72, 3) := by decide +kernel
theorem d_md_mayFollow_36 : decode prog_7_method_15_code 36 = .ok (.iload 4, 2) := by decide +kernel
theorem d_md_mayFollow_38 : decode prog_7_method_15_code 38 = .ok (.ifCond .eq 58, 3) := by decide +kernel
theorem d_md_mayFollow_41 : decode prog_7_method_15_code 41 = .ok (.aload_n 0, 1) := by decide +kernel
theorem d_md_mayFollow_42 : decode prog_7_method_15_code 42 = .ok (.getfield 57, 3) := by decide +kernel
theorem d_md_mayFollow_45 : decode prog_7_method_15_code 45 = .ok (.iload 5, 2) := by decide +kernel
theorem d_md_mayFollow_47 : decode prog_7_method_15_code 47 = .ok (.iaload, 1) := by decide +kernel
theorem d_md_mayFollow_48 : decode prog_7_method_15_code 48 = .ok (.iload_n 3, 1) := by decide +kernel
theorem d_md_mayFollow_49 : decode prog_7_method_15_code 49 = .ok (.if_icmp .eq 47, 3) := by decide +kernel
theorem d_md_mayFollow_52 : decode prog_7_method_15_code 52 = .ok (.aload_n 0, 1) := by decide +kernel
theorem d_md_mayFollow_53 : decode prog_7_method_15_code 53 = .ok (.getfield 29, 3) := by decide +kernel
theorem d_md_mayFollow_56 : decode prog_7_method_15_code 56 = .ok (.bipush 7, 2) := by decide +kernel
theorem d_md_mayFollow_58 : decode prog_7_method_15_code 58 = .ok (.aload_n 0, 1) := by decide +kernel
theorem d_md_mayFollow_59 : decode prog_7_method_15_code 59 = .ok (.getfield 57, 3) := by decide +kernel
theorem d_md_mayFollow_62 : decode prog_7_method_15_code 62 = .ok (.iload 5, 2) := by decide +kernel
theorem d_md_mayFollow_64 : decode prog_7_method_15_code 64 = .ok (.iaload, 1) := by decide +kernel
theorem d_md_mayFollow_65 : decode prog_7_method_15_code 65 = .ok (.imul, 1) := by decide +kernel
theorem d_md_mayFollow_66 : decode prog_7_method_15_code 66 = .ok (.iload_n 3, 1) := by decide +kernel
theorem d_md_mayFollow_67 : decode prog_7_method_15_code 67 = .ok (.iadd, 1) := by decide +kernel
theorem d_md_mayFollow_68 : decode prog_7_method_15_code 68 = .ok (.baload, 1) := by decide +kernel
theorem d_md_mayFollow_69 : decode prog_7_method_15_code 69 = .ok (.ifCond .ne 27, 3) := by decide +kernel
theorem d_md_mayFollow_72 : decode prog_7_method_15_code 72 = .ok (.aload_n 0, 1) := by decide +kernel
theorem d_md_mayFollow_73 : decode prog_7_method_15_code 73 = .ok (.getfield 33, 3) := by decide +kernel
theorem d_md_mayFollow_76 : decode prog_7_method_15_code 76 = .ok (.bipush 7, 2) := by decide +kernel
theorem d_md_mayFollow_78 : decode prog_7_method_15_code 78 = .ok (.iload_n 3, 1) := by decide +kernel
theorem d_md_mayFollow_79 : decode prog_7_method_15_code 79 = .ok (.imul, 1) := by decide +kernel
theorem d_md_mayFollow_80 : decode prog_7_method_15_code 80 = .ok (.aload_n 0, 1) := by decide +kernel
theorem d_md_mayFollow_81 : decode prog_7_method_15_code 81 = .ok (.getfield 57, 3) := by decide +kernel
theorem d_md_mayFollow_84 : decode prog_7_method_15_code 84 = .ok (.iload 5, 2) := by decide +kernel
theorem d_md_mayFollow_86 : decode prog_7_method_15_code 86 = .ok (.iaload, 1) := by decide +kernel
theorem d_md_mayFollow_87 : decode prog_7_method_15_code 87 = .ok (.iadd, 1) := by decide +kernel
theorem d_md_mayFollow_88 : decode prog_7_method_15_code 88 = .ok (.baload, 1) := by decide +kernel
theorem d_md_mayFollow_89 : decode prog_7_method_15_code 89 = .ok (.ifCond .ne 7, 3) := by decide +kernel
theorem d_md_mayFollow_92 : decode prog_7_method_15_code 92 = .ok (.iconst 1, 1) := by decide +kernel
theorem d_md_mayFollow_93 : decode prog_7_method_15_code 93 = .ok (.goto 4, 3) := by decide +kernel
theorem d_md_mayFollow_96 : decode prog_7_method_15_code 96 = .ok (.iconst 0, 1) := by decide +kernel
theorem d_md_mayFollow_97 : decode prog_7_method_15_code 97 = .ok (.istore 4, 2) := by decide +kernel
theorem d_md_mayFollow_99 : decode prog_7_method_15_code 99 = .ok (.iinc 5 1, 3) := by decide +kernel
theorem d_md_mayFollow_102 : decode prog_7_method_15_code 102 = .ok (.goto (-72), 3) := by decide +kernel
theorem d_md_mayFollow_105 : decode prog_7_method_15_code 105 = .ok (.iload 4, 2) := by decide +kernel
theorem d_md_mayFollow_107 : decode prog_7_method_15_code 107 = .ok (.ireturn, 1) := by decide +kernel
theorem d_md_drive_0 : decode prog_7_method_16_code 0 = .ok (.aload_n 0, 1) := by decide +kernel
theorem d_md_drive_1 : decode prog_7_method_16_code 1 = .ok (.getfield 39, 3) := by decide +kernel
theorem d_md_drive_4 : decode prog_7_method_16_code 4 = .ok (.iload_n 1, 1) := by decide +kernel
theorem d_md_drive_5 : decode prog_7_method_16_code 5 = .ok (.iaload, 1) := by decide +kernel
theorem d_md_drive_6 : decode prog_7_method_16_code 6 = .ok (.istore_n 3, 1) := by decide +kernel
theorem d_md_drive_7 : decode prog_7_method_16_code 7 = .ok (.bipush 7, 2) := by decide +kernel
theorem d_md_drive_9 : decode prog_7_method_16_code 9 = .ok (.istore 4, 2) := by decide +kernel
theorem d_md_drive_11 : decode prog_7_method_16_code 11 = .ok (.iconst 0, 1) := by decide +kernel
theorem d_md_drive_12 : decode prog_7_method_16_code 12 = .ok (.istore 5, 2) := by decide +kernel
theorem d_md_drive_14 : decode prog_7_method_16_code 14 = .ok (.iconst 0, 1) := by decide +kernel
theorem d_md_drive_15 : decode prog_7_method_16_code 15 = .ok (.istore 6, 2) := by decide +kernel
theorem d_md_drive_17 : decode prog_7_method_16_code 17 = .ok (.iload 6, 2) := by decide +kernel
theorem d_md_drive_19 : decode prog_7_method_16_code 19 = .ok (.iload_n 2, 1) := by decide +kernel
theorem d_md_drive_20 : decode prog_7_method_16_code 20 = .ok (.if_icmp .ge 104, 3) := by decide +kernel
theorem d_md_drive_23 : decode prog_7_method_16_code 23 = .ok (.aload_n 0, 1) := by decide +kernel
theorem d_md_drive_24 : decode prog_7_method_16_code 24 = .ok (.getfield 57, 3) := by decide +kernel
theorem d_md_drive_27 : decode prog_7_method_16_code 27 = .ok (.iload 6, 2) := by decide +kernel
theorem d_md_drive_29 : decode prog_7_method_16_code 29 = .ok (.iaload, 1) := by decide +kernel
theorem d_md_drive_30 : decode prog_7_method_16_code 30 = .ok (.istore 7, 2) := by decide +kernel
theorem d_md_drive_32 : decode prog_7_method_16_code 32 = .ok (.iload_n 3, 1) := by decide +kernel
theorem d_md_drive_33 : decode prog_7_method_16_code 33 = .ok (.aload_n 0, 1) := by decide +kernel
theorem d_md_drive_34 : decode prog_7_method_16_code 34 = .ok (.getfield 48, 3) := by decide +kernel
theorem d_md_drive_37 : decode prog_7_method_16_code 37 = .ok (.bipush 8, 2) := by decide +kernel
theorem d_md_drive_39 : decode prog_7_method_16_code 39 = .ok (.iload 4, 2) := by decide +kernel
theorem d_md_drive_41 : decode prog_7_method_16_code 41 = .ok (.imul, 1) := by decide +kernel
theorem d_md_drive_42 : decode prog_7_method_16_code 42 = .ok (.iload 7, 2) := by decide +kernel
theorem d_md_drive_44 : decode prog_7_method_16_code 44 = .ok (.iadd, 1) := by decide +kernel
theorem d_md_drive_45 : decode prog_7_method_16_code 45 = .ok (.iaload, 1) := by decide +kernel
theorem d_md_drive_46 : decode prog_7_method_16_code 46 = .ok (.iadd, 1) := by decide +kernel
theorem d_md_drive_47 : decode prog_7_method_16_code 47 = .ok (.istore_n 3, 1) := by decide +kernel
theorem d_md_drive_48 : decode prog_7_method_16_code 48 = .ok (.iload_n 3, 1) := by decide +kernel
theorem d_md_drive_49 : decode prog_7_method_16_code 49 = .ok (.aload_n 0, 1) := by decide +kernel
theorem d_md_drive_50 : decode prog_7_method_16_code 50 = .ok (.getfield 16, 3) := by decide +kernel
theorem d_md_drive_53 : decode prog_7_method_16_code 53 = .ok (.iload 7, 2) := by decide +kernel
theorem d_md_drive_55 : decode prog_7_method_16_code 55 = .ok (.iaload, 1) := by decide +kernel
theorem d_md_drive_56 : decode prog_7_method_16_code 56 = .ok (.if_icmp .le 5, 3) := by decide +kernel
theorem d_md_drive_59 : decode prog_7_method_16_code 59 = .ok (.iconst (-1), 1) := by decide +kernel
theorem d_md_drive_60 : decode prog_7_method_16_code 60 = .ok (.ireturn, 1) := by decide +kernel
theorem d_md_drive_61 : decode prog_7_method_16_code 61 = .ok (.iload_n 3, 1) := by decide +kernel
theorem d_md_drive_62 : decode prog_7_method_16_code 62 = .ok (.aload_n 0, 1) := by decide +kernel
theorem d_md_drive_63 : decode prog_7_method_16_code 63 = .ok (.getfield 13, 3) := by decide +kernel
theorem d_md_drive_66 : decode prog_7_method_16_code 66 = .ok (.iload 7, 2) := by decide +kernel
theorem d_md_drive_68 : decode prog_7_method_16_code 68 = .ok (.iaload, 1) := by decide +kernel
theorem d_md_drive_69 : decode prog_7_method_16_code 69 = .ok (.if_icmp .ge 13, 3) := by decide +kernel
theorem d_md_drive_72 : decode prog_7_method_16_code 72 = .ok (.aload_n 0, 1) := by decide +kernel
theorem d_md_drive_73 : decode prog_7_method_16_code 73 = .ok (.getfield 13, 3) := by decide +kernel
theorem d_md_drive_76 : decode prog_7_method_16_code 76 = .ok (.iload 7, 2) := by decide +kernel
theorem d_md_drive_78 : decode prog_7_method_16_code 78 = .ok (.iaload, 1) := by decide +kernel
theorem d_md_drive_79 : decode prog_7_method_16_code 79 = .ok (.goto 4, 3) := by decide +kernel
theorem d_md_drive_82 : decode prog_7_method_16_code 82 = .ok (.iload_n 3, 1) := by decide +kernel
theorem d_md_drive_83 : decode prog_7_method_16_code 83 = .ok (.istore_n 3, 1) := by decide +kernel
theorem d_md_drive_84 : decode prog_7_method_16_code 84 = .ok (.aload_n 0, 1) := by decide +kernel
theorem d_md_drive_85 : decode prog_7_method_16_code 85 = .ok (.getfield 63, 3) := by decide +kernel
theorem d_md_drive_88 : decode prog_7_method_16_code 88 = .ok (.iload 7, 2) := by decide +kernel
theorem d_md_drive_90 : decode prog_7_method_16_code 90 = .ok (.iload_n 3, 1) := by decide +kernel
theorem d_md_drive_91 : decode prog_7_method_16_code 91 = .ok (.iastore, 1) := by decide +kernel
theorem d_md_drive_92 : decode prog_7_method_16_code 92 = .ok (.iload_n 3, 1) := by decide +kernel
theorem d_md_drive_93 : decode prog_7_method_16_code 93 = .ok (.aload_n 0, 1) := by decide +kernel
theorem d_md_drive_94 : decode prog_7_method_16_code 94 = .ok (.getfield 19, 3) := by decide +kernel
theorem d_md_drive_97 : decode prog_7_method_16_code 97 = .ok (.iload 7, 2) := by decide +kernel
theorem d_md_drive_99 : decode prog_7_method_16_code 99 = .ok (.iaload, 1) := by decide +kernel
theorem d_md_drive_100 : decode prog_7_method_16_code 100 = .ok (.iadd, 1) := by decide +kernel
theorem d_md_drive_101 : decode prog_7_method_16_code 101 = .ok (.istore_n 3, 1) := by decide +kernel
theorem d_md_drive_102 : decode prog_7_method_16_code 102 = .ok (.iload 5, 2) := by decide +kernel
theorem d_md_drive_104 : decode prog_7_method_16_code 104 = .ok (.aload_n 0, 1) := by decide +kernel
theorem d_md_drive_105 : decode prog_7_method_16_code 105 = .ok (.getfield 7, 3) := by decide +kernel
theorem d_md_drive_108 : decode prog_7_method_16_code 108 = .ok (.iload 7, 2) := by decide +kernel
theorem d_md_drive_110 : decode prog_7_method_16_code 110 = .ok (.iaload, 1) := by decide +kernel
theorem d_md_drive_111 : decode prog_7_method_16_code 111 = .ok (.iadd, 1) := by decide +kernel
theorem d_md_drive_112 : decode prog_7_method_16_code 112 = .ok (.istore 5, 2) := by decide +kernel
theorem d_md_drive_114 : decode prog_7_method_16_code 114 = .ok (.iload 7, 2) := by decide +kernel
theorem d_md_drive_116 : decode prog_7_method_16_code 116 = .ok (.istore 4, 2) := by decide +kernel
theorem d_md_drive_118 : decode prog_7_method_16_code 118 = .ok (.iinc 6 1, 3) := by decide +kernel
theorem d_md_drive_121 : decode prog_7_method_16_code 121 = .ok (.goto (-104), 3) := by decide +kernel
theorem d_md_drive_124 : decode prog_7_method_16_code 124 = .ok (.iload_n 3, 1) := by decide +kernel
theorem d_md_drive_125 : decode prog_7_method_16_code 125 = .ok (.aload_n 0, 1) := by decide +kernel
theorem d_md_drive_126 : decode prog_7_method_16_code 126 = .ok (.getfield 48, 3) := by decide +kernel
theorem d_md_drive_129 : decode prog_7_method_16_code 129 = .ok (.bipush 8, 2) := by decide +kernel
theorem d_md_drive_131 : decode prog_7_method_16_code 131 = .ok (.iload 4, 2) := by decide +kernel
theorem d_md_drive_133 : decode prog_7_method_16_code 133 = .ok (.imul, 1) := by decide +kernel
theorem d_md_drive_134 : decode prog_7_method_16_code 134 = .ok (.bipush 7, 2) := by decide +kernel
theorem d_md_drive_136 : decode prog_7_method_16_code 136 = .ok (.iadd, 1) := by decide +kernel
theorem d_md_drive_137 : decode prog_7_method_16_code 137 = .ok (.iaload, 1) := by decide +kernel
theorem d_md_drive_138 : decode prog_7_method_16_code 138 = .ok (.iadd, 1) := by decide +kernel
theorem d_md_drive_139 : decode prog_7_method_16_code 139 = .ok (.istore_n 3, 1) := by decide +kernel
theorem d_md_drive_140 : decode prog_7_method_16_code 140 = .ok (.iload_n 3, 1) := by decide +kernel
theorem d_md_drive_141 : decode prog_7_method_16_code 141 = .ok (.aload_n 0, 1) := by decide +kernel
theorem d_md_drive_142 : decode prog_7_method_16_code 142 = .ok (.getfield 42, 3) := by decide +kernel
theorem d_md_drive_145 : decode prog_7_method_16_code 145 = .ok (.iload_n 1, 1) := by decide +kernel
theorem d_md_drive_146 : decode prog_7_method_16_code 146 = .ok (.iaload, 1) := by decide +kernel
theorem d_md_drive_147 : decode prog_7_method_16_code 147 = .ok (.if_icmp .gt 18, 3) := by decide +kernel
theorem d_md_drive_150 : decode prog_7_method_16_code 150 = .ok (.iload 5, 2) := by decide +kernel
theorem d_md_drive_152 : decode prog_7_method_16_code 152 = .ok (.aload_n 0, 1) := by decide +kernel
theorem d_md_drive_153 : decode prog_7_method_16_code 153 = .ok (.getfield 36, 3) := by decide +kernel
theorem d_md_drive_156 : decode prog_7_method_16_code 156 = .ok (.iload_n 1, 1) := by decide +kernel
theorem d_md_drive_157 : decode prog_7_method_16_code 157 = .ok (.iaload, 1) := by decide +kernel
theorem d_md_drive_158 : decode prog_7_method_16_code 158 = .ok (.if_icmp .gt 7, 3) := by decide +kernel
theorem d_md_drive_161 : decode prog_7_method_16_code 161 = .ok (.iload_n 3, 1) := by decide +kernel
theorem d_md_drive_162 : decode prog_7_method_16_code 162 = .ok (.goto 4, 3) := by decide +kernel
theorem d_md_drive_165 : decode prog_7_method_16_code 165 = .ok (.iconst (-1), 1) := by decide +kernel
theorem d_md_drive_166 : decode prog_7_method_16_code 166 = .ok (.ireturn, 1) := by decide +kernel
theorem d_md_setOf_0 : decode prog_7_method_17_code 0 = .ok (.iconst 0, 1) := by decide +kernel
theorem d_md_setOf_1 : decode prog_7_method_17_code 1 = .ok (.istore_n 2, 1) := by decide +kernel
theorem d_md_setOf_2 : decode prog_7_method_17_code 2 = .ok (.iconst 0, 1) := by decide +kernel
theorem d_md_setOf_3 : decode prog_7_method_17_code 3 = .ok (.istore_n 3, 1) := by decide +kernel
theorem d_md_setOf_4 : decode prog_7_method_17_code 4 = .ok (.iload_n 3, 1) := by decide +kernel
theorem d_md_setOf_5 : decode prog_7_method_17_code 5 = .ok (.iload_n 1, 1) := by decide +kernel
theorem d_md_setOf_6 : decode prog_7_method_17_code 6 = .ok (.if_icmp .ge 20, 3) := by decide +kernel
theorem d_md_setOf_9 : decode prog_7_method_17_code 9 = .ok (.iload_n 2, 1) := by decide +kernel
theorem d_md_setOf_10 : decode prog_7_method_17_code 10 = .ok (.iconst 1, 1) := by decide +kernel
theorem d_md_setOf_11 : decode prog_7_method_17_code 11 = .ok (.aload_n 0, 1) := by decide +kernel
theorem d_md_setOf_12 : decode prog_7_method_17_code 12 = .ok (.getfield 57, 3) := by decide +kernel
theorem d_md_setOf_15 : decode prog_7_method_17_code 15 = .ok (.iload_n 3, 1) := by decide +kernel
theorem d_md_setOf_16 : decode prog_7_method_17_code 16 = .ok (.iaload, 1) := by decide +kernel
theorem d_md_setOf_17 : decode prog_7_method_17_code 17 = .ok (.ishl, 1) := by decide +kernel
theorem d_md_setOf_18 : decode prog_7_method_17_code 18 = .ok (.ior, 1) := by decide +kernel
theorem d_md_setOf_19 : decode prog_7_method_17_code 19 = .ok (.istore_n 2, 1) := by decide +kernel
theorem d_md_setOf_20 : decode prog_7_method_17_code 20 = .ok (.iinc 3 1, 3) := by decide +kernel
theorem d_md_setOf_23 : decode prog_7_method_17_code 23 = .ok (.goto (-19), 3) := by decide +kernel
theorem d_md_setOf_26 : decode prog_7_method_17_code 26 = .ok (.iload_n 2, 1) := by decide +kernel
theorem d_md_setOf_27 : decode prog_7_method_17_code 27 = .ok (.ireturn, 1) := by decide +kernel
theorem d_md_rowOf_0 : decode prog_7_method_18_code 0 = .ok (.iconst 0, 1) := by decide +kernel
theorem d_md_rowOf_1 : decode prog_7_method_18_code 1 = .ok (.istore_n 2, 1) := by decide +kernel
theorem d_md_rowOf_2 : decode prog_7_method_18_code 2 = .ok (.iconst 0, 1) := by decide +kernel
theorem d_md_rowOf_3 : decode prog_7_method_18_code 3 = .ok (.istore_n 3, 1) := by decide +kernel
theorem d_md_rowOf_4 : decode prog_7_method_18_code 4 = .ok (.iload_n 3, 1) := by decide +kernel
theorem d_md_rowOf_5 : decode prog_7_method_18_code 5 = .ok (.iload_n 1, 1) := by decide +kernel
theorem d_md_rowOf_6 : decode prog_7_method_18_code 6 = .ok (.if_icmp .ge 22, 3) := by decide +kernel
theorem d_md_rowOf_9 : decode prog_7_method_18_code 9 = .ok (.iload_n 2, 1) := by decide +kernel
theorem d_md_rowOf_10 : decode prog_7_method_18_code 10 = .ok (.aload_n 0, 1) := by decide +kernel
theorem d_md_rowOf_11 : decode prog_7_method_18_code 11 = .ok (.getfield 57, 3) := by decide +kernel
theorem d_md_rowOf_14 : decode prog_7_method_18_code 14 = .ok (.iload_n 3, 1) := by decide +kernel
theorem d_md_rowOf_15 : decode prog_7_method_18_code 15 = .ok (.iaload, 1) := by decide +kernel
theorem d_md_rowOf_16 : decode prog_7_method_18_code 16 = .ok (.iconst 3, 1) := by decide +kernel
theorem d_md_rowOf_17 : decode prog_7_method_18_code 17 = .ok (.iload_n 3, 1) := by decide +kernel
theorem d_md_rowOf_18 : decode prog_7_method_18_code 18 = .ok (.imul, 1) := by decide +kernel
theorem d_md_rowOf_19 : decode prog_7_method_18_code 19 = .ok (.ishl, 1) := by decide +kernel
theorem d_md_rowOf_20 : decode prog_7_method_18_code 20 = .ok (.ior, 1) := by decide +kernel
theorem d_md_rowOf_21 : decode prog_7_method_18_code 21 = .ok (.istore_n 2, 1) := by decide +kernel
theorem d_md_rowOf_22 : decode prog_7_method_18_code 22 = .ok (.iinc 3 1, 3) := by decide +kernel
theorem d_md_rowOf_25 : decode prog_7_method_18_code 25 = .ok (.goto (-21), 3) := by decide +kernel
theorem d_md_rowOf_28 : decode prog_7_method_18_code 28 = .ok (.iload_n 2, 1) := by decide +kernel
theorem d_md_rowOf_29 : decode prog_7_method_18_code 29 = .ok (.ireturn, 1) := by decide +kernel
theorem d_md_driveAll_0 : decode prog_7_method_19_code 0 = .ok (.iconst 0, 1) := by decide +kernel
theorem d_md_driveAll_1 : decode prog_7_method_19_code 1 = .ok (.istore_n 2, 1) := by decide +kernel
theorem d_md_driveAll_2 : decode prog_7_method_19_code 2 = .ok (.iload_n 2, 1) := by decide +kernel
theorem d_md_driveAll_3 : decode prog_7_method_19_code 3 = .ok (.sipush 128, 3) := by decide +kernel
theorem d_md_driveAll_6 : decode prog_7_method_19_code 6 = .ok (.if_icmp .ge 22, 3) := by decide +kernel
theorem d_md_driveAll_9 : decode prog_7_method_19_code 9 = .ok (.aload_n 0, 1) := by decide +kernel
theorem d_md_driveAll_10 : decode prog_7_method_19_code 10 = .ok (.getfield 51, 3) := by decide +kernel
theorem d_md_driveAll_13 : decode prog_7_method_19_code 13 = .ok (.sipush 128, 3) := by decide +kernel
theorem d_md_driveAll_16 : decode prog_7_method_19_code 16 = .ok (.iload_n 1, 1) := by decide +kernel
theorem d_md_driveAll_17 : decode prog_7_method_19_code 17 = .ok (.imul, 1) := by decide +kernel
theorem d_md_driveAll_18 : decode prog_7_method_19_code 18 = .ok (.iload_n 2, 1) := by decide +kernel
theorem d_md_driveAll_19 : decode prog_7_method_19_code 19 = .ok (.iadd, 1) := by decide +kernel
theorem d_md_driveAll_20 : decode prog_7_method_19_code 20 = .ok (.iconst (-1), 1) := by decide +kernel
theorem d_md_driveAll_21 : decode prog_7_method_19_code 21 = .ok (.iastore, 1) := by decide +kernel
theorem d_md_driveAll_22 : decode prog_7_method_19_code 22 = .ok (.iinc 2 1, 3) := by decide +kernel
theorem d_md_driveAll_25 : decode prog_7_method_19_code 25 = .ok (.goto (-23), 3) := by decide +kernel
theorem d_md_driveAll_28 : decode prog_7_method_19_code 28 = .ok (.iconst 0, 1) := by decide +kernel
theorem d_md_driveAll_29 : decode prog_7_method_19_code 29 = .ok (.istore_n 2, 1) := by decide +kernel
theorem d_md_driveAll_30 : decode prog_7_method_19_code 30 = .ok (.iconst 0, 1) := by decide +kernel
theorem d_md_driveAll_31 : decode prog_7_method_19_code 31 = .ok (.istore_n 3, 1) := by decide +kernel
theorem d_md_driveAll_32 : decode prog_7_method_19_code 32 = .ok (.iload_n 2, 1) := by decide +kernel
theorem d_md_driveAll_33 : decode prog_7_method_19_code 33 = .ok (.ifCond .lt 79, 3) := by decide +kernel
theorem d_md_driveAll_36 : decode prog_7_method_19_code 36 = .ok (.iload_n 3, 1) := by decide +kernel
theorem d_md_driveAll_37 : decode prog_7_method_19_code 37 = .ok (.aload_n 0, 1) := by decide +kernel
theorem d_md_driveAll_38 : decode prog_7_method_19_code 38 = .ok (.getfield 78, 3) := by decide +kernel
theorem d_md_driveAll_41 : decode prog_7_method_19_code 41 = .ok (.if_icmp .ge 19, 3) := by decide +kernel
theorem d_md_driveAll_44 : decode prog_7_method_19_code 44 = .ok (.aload_n 0, 1) := by decide +kernel
theorem d_md_driveAll_45 : decode prog_7_method_19_code 45 = .ok (.iload_n 1, 1) := by decide +kernel
theorem d_md_driveAll_46 : decode prog_7_method_19_code 46 = .ok (.iload_n 2, 1) := by decide +kernel
theorem d_md_driveAll_47 : decode prog_7_method_19_code 47 = .ok (.iload_n 3, 1) := by decide +kernel
theorem d_md_driveAll_48 : decode prog_7_method_19_code 48 = .ok (.invokevirtual 117, 3) := by decide +kernel
theorem d_md_driveAll_51 : decode prog_7_method_19_code 51 = .ok (.ifCond .ne 9, 3) := by decide +kernel
theorem d_md_driveAll_54 : decode prog_7_method_19_code 54 = .ok (.iinc 3 1, 3) := by decide +kernel
theorem d_md_driveAll_57 : decode prog_7_method_19_code 57 = .ok (.goto (-21), 3) := by decide +kernel
theorem d_md_driveAll_60 : decode prog_7_method_19_code 60 = .ok (.iload_n 3, 1) := by decide +kernel
theorem d_md_driveAll_61 : decode prog_7_method_19_code 61 = .ok (.aload_n 0, 1) := by decide +kernel
theorem d_md_driveAll_62 : decode prog_7_method_19_code 62 = .ok (.getfield 78, 3) := by decide +kernel
theorem d_md_driveAll_65 : decode prog_7_method_19_code 65 = .ok (.if_icmp .ge 24, 3) := by decide +kernel
theorem d_md_driveAll_68 : decode prog_7_method_19_code 68 = .ok (.aload_n 0, 1) := by decide +kernel
theorem d_md_driveAll_69 : decode prog_7_method_19_code 69 = .ok (.getfield 57, 3) := by decide +kernel
theorem d_md_driveAll_72 : decode prog_7_method_19_code 72 = .ok (.iload_n 2, 1) := by decide +kernel
theorem d_md_driveAll_73 : decode prog_7_method_19_code 73 = .ok (.iload_n 3, 1) := by decide +kernel
theorem d_md_driveAll_74 : decode prog_7_method_19_code 74 = .ok (.iastore, 1) := by decide +kernel
theorem d_md_driveAll_75 : decode prog_7_method_19_code 75 = .ok (.iinc 2 1, 3) := by decide +kernel
theorem d_md_driveAll_78 : decode prog_7_method_19_code 78 = .ok (.aload_n 0, 1) := by decide +kernel
theorem d_md_driveAll_79 : decode prog_7_method_19_code 79 = .ok (.iload_n 1, 1) := by decide +kernel
theorem d_md_driveAll_80 : decode prog_7_method_19_code 80 = .ok (.iload_n 2, 1) := by decide +kernel
theorem d_md_driveAll_81 : decode prog_7_method_19_code 81 = .ok (.invokevirtual 121, 3) := by decide +kernel
theorem d_md_driveAll_84 : decode prog_7_method_19_code 84 = .ok (.iconst 0, 1) := by decide +kernel
theorem d_md_driveAll_85 : decode prog_7_method_19_code 85 = .ok (.istore_n 3, 1) := by decide +kernel
theorem d_md_driveAll_86 : decode prog_7_method_19_code 86 = .ok (.goto (-54), 3) := by decide +kernel
theorem d_md_driveAll_89 : decode prog_7_method_19_code 89 = .ok (.iinc 2 (-1), 3) := by decide +kernel
theorem d_md_driveAll_92 : decode prog_7_method_19_code 92 = .ok (.iload_n 2, 1) := by decide +kernel
theorem d_md_driveAll_93 : decode prog_7_method_19_code 93 = .ok (.ifCond .lt 14, 3) := by decide +kernel
theorem d_md_driveAll_96 : decode prog_7_method_19_code 96 = .ok (.aload_n 0, 1) := by decide +kernel
theorem d_md_driveAll_97 : decode prog_7_method_19_code 97 = .ok (.getfield 57, 3) := by decide +kernel
theorem d_md_driveAll_100 : decode prog_7_method_19_code 100 = .ok (.iload_n 2, 1) := by decide +kernel
theorem d_md_driveAll_101 : decode prog_7_method_19_code 101 = .ok (.iaload, 1) := by decide +kernel
theorem d_md_driveAll_102 : decode prog_7_method_19_code 102 = .ok (.iconst 1, 1) := by decide +kernel
theorem d_md_driveAll_103 : decode prog_7_method_19_code 103 = .ok (.iadd, 1) := by decide +kernel
theorem d_md_driveAll_104 : decode prog_7_method_19_code 104 = .ok (.goto 4, 3) := by decide +kernel
theorem d_md_driveAll_107 : decode prog_7_method_19_code 107 = .ok (.iconst 0, 1) := by decide +kernel
theorem d_md_driveAll_108 : decode prog_7_method_19_code 108 = .ok (.istore_n 3, 1) := by decide +kernel
theorem d_md_driveAll_109 : decode prog_7_method_19_code 109 = .ok (.goto (-77), 3) := by decide +kernel
theorem d_md_driveAll_112 : decode prog_7_method_19_code 112 = .ok (.return_, 1) := by decide +kernel
theorem d_md_keep_0 : decode prog_7_method_20_code 0 = .ok (.aload_n 0, 1) := by decide +kernel
theorem d_md_keep_1 : decode prog_7_method_20_code 1 = .ok (.iload_n 1, 1) := by decide +kernel
theorem d_md_keep_2 : decode prog_7_method_20_code 2 = .ok (.iload_n 2, 1) := by decide +kernel
theorem d_md_keep_3 : decode prog_7_method_20_code 3 = .ok (.invokevirtual 125, 3) := by decide +kernel
theorem d_md_keep_6 : decode prog_7_method_20_code 6 = .ok (.istore_n 3, 1) := by decide +kernel
theorem d_md_keep_7 : decode prog_7_method_20_code 7 = .ok (.sipush 128, 3) := by decide +kernel
theorem d_md_keep_10 : decode prog_7_method_20_code 10 = .ok (.iload_n 1, 1) := by decide +kernel
theorem d_md_keep_11 : decode prog_7_method_20_code 11 = .ok (.imul, 1) := by decide +kernel
theorem d_md_keep_12 : decode prog_7_method_20_code 12 = .ok (.aload_n 0, 1) := by decide +kernel
theorem d_md_keep_13 : decode prog_7_method_20_code 13 = .ok (.iload_n 2, 1) := by decide +kernel
theorem d_md_keep_14 : decode prog_7_method_20_code 14 = .ok (.invokevirtual 129, 3) := by decide +kernel
theorem d_md_keep_17 : decode prog_7_method_20_code 17 = .ok (.iadd, 1) := by decide +kernel
theorem d_md_keep_18 : decode prog_7_method_20_code 18 = .ok (.istore 4, 2) := by decide +kernel
theorem d_md_keep_20 : decode prog_7_method_20_code 20 = .ok (.iload_n 3, 1) := by decide +kernel
theorem d_md_keep_21 : decode prog_7_method_20_code 21 = .ok (.ifCond .lt 44, 3) := by decide +kernel
theorem d_md_keep_24 : decode prog_7_method_20_code 24 = .ok (.aload_n 0, 1) := by decide +kernel
theorem d_md_keep_25 : decode prog_7_method_20_code 25 = .ok (.getfield 51, 3) := by decide +kernel
theorem d_md_keep_28 : decode prog_7_method_20_code 28 = .ok (.iload 4, 2) := by decide +kernel
theorem d_md_keep_30 : decode prog_7_method_20_code 30 = .ok (.iaload, 1) := by decide +kernel
theorem d_md_keep_31 : decode prog_7_method_20_code 31 = .ok (.ifCond .lt 14, 3) := by decide +kernel
theorem d_md_keep_34 : decode prog_7_method_20_code 34 = .ok (.iload_n 3, 1) := by decide +kernel
theorem d_md_keep_35 : decode prog_7_method_20_code 35 = .ok (.aload_n 0, 1) := by decide +kernel
theorem d_md_keep_36 : decode prog_7_method_20_code 36 = .ok (.getfield 51, 3) := by decide +kernel
theorem d_md_keep_39 : decode prog_7_method_20_code 39 = .ok (.iload 4, 2) := by decide +kernel
theorem d_md_keep_41 : decode prog_7_method_20_code 41 = .ok (.iaload, 1) := by decide +kernel
theorem d_md_keep_42 : decode prog_7_method_20_code 42 = .ok (.if_icmp .ge 23, 3) := by decide +kernel
theorem d_md_keep_45 : decode prog_7_method_20_code 45 = .ok (.aload_n 0, 1) := by decide +kernel
theorem d_md_keep_46 : decode prog_7_method_20_code 46 = .ok (.getfield 51, 3) := by decide +kernel
theorem d_md_keep_49 : decode prog_7_method_20_code 49 = .ok (.iload 4, 2) := by decide +kernel
theorem d_md_keep_51 : decode prog_7_method_20_code 51 = .ok (.iload_n 3, 1) := by decide +kernel
theorem d_md_keep_52 : decode prog_7_method_20_code 52 = .ok (.iastore, 1) := by decide +kernel
theorem d_md_keep_53 : decode prog_7_method_20_code 53 = .ok (.aload_n 0, 1) := by decide +kernel
theorem d_md_keep_54 : decode prog_7_method_20_code 54 = .ok (.getfield 54, 3) := by decide +kernel
theorem d_md_keep_57 : decode prog_7_method_20_code 57 = .ok (.iload 4, 2) := by decide +kernel
theorem d_md_keep_59 : decode prog_7_method_20_code 59 = .ok (.aload_n 0, 1) := by decide +kernel
theorem d_md_keep_60 : decode prog_7_method_20_code 60 = .ok (.iload_n 2, 1) := by decide +kernel
theorem d_md_keep_61 : decode prog_7_method_20_code 61 = .ok (.invokevirtual 133, 3) := by decide +kernel
theorem d_md_keep_64 : decode prog_7_method_20_code 64 = .ok (.iastore, 1) := by decide +kernel
theorem d_md_keep_65 : decode prog_7_method_20_code 65 = .ok (.return_, 1) := by decide +kernel
theorem d_md_digit_0 : decode prog_7_method_21_code 0 = .ok (.iload_n 0, 1) := by decide +kernel
theorem d_md_digit_1 : decode prog_7_method_21_code 1 = .ok (.iconst 2, 1) := by decide +kernel
theorem d_md_digit_2 : decode prog_7_method_21_code 2 = .ok (.bipush 6, 2) := by decide +kernel
theorem d_md_digit_4 : decode prog_7_method_21_code 4 = .ok (.iload_n 1, 1) := by decide +kernel
theorem d_md_digit_5 : decode prog_7_method_21_code 5 = .ok (.isub, 1) := by decide +kernel
theorem d_md_digit_6 : decode prog_7_method_21_code 6 = .ok (.imul, 1) := by decide +kernel
theorem d_md_digit_7 : decode prog_7_method_21_code 7 = .ok (.ishr, 1) := by decide +kernel
theorem d_md_digit_8 : decode prog_7_method_21_code 8 = .ok (.iconst 3, 1) := by decide +kernel
theorem d_md_digit_9 : decode prog_7_method_21_code 9 = .ok (.iand, 1) := by decide +kernel
theorem d_md_digit_10 : decode prog_7_method_21_code 10 = .ok (.ireturn, 1) := by decide +kernel
theorem d_md_setIn_0 : decode prog_7_method_22_code 0 = .ok (.iconst 0, 1) := by decide +kernel
end
section
theorem d_md_setIn_1 : decode prog_7_method_22_code 1 = .ok (.istore_n 3, 1) := by decide +kernel
theorem d_md_setIn_2 : decode prog_7_method_22_code 2 = .ok (.iconst 0, 1) := by decide +kernel
theorem d_md_setIn_3 : decode prog_7_method_22_code 3 = .ok (.istore 4, 2) := by decide +kernel
theorem d_md_setIn_5 : decode prog_7_method_22_code 5 = .ok (.iload 4, 2) := by decide +kernel
theorem d_md_setIn_7 : decode prog_7_method_22_code 7 = .ok (.aload_n 0, 1) := by decide +kernel
theorem d_md_setIn_8 : decode prog_7_method_22_code 8 = .ok (.getfield 78, 3) := by decide +kernel
theorem d_md_setIn_11 : decode prog_7_method_22_code 11 = .ok (.if_icmp .ge 30, 3) := by decide +kernel
theorem d_md_setIn_14 : decode prog_7_method_22_code 14 = .ok (.iload_n 3, 1) := by decide +kernel
theorem d_md_setIn_15 : decode prog_7_method_22_code 15 = .ok (.iload_n 1, 1) := by decide +kernel
theorem d_md_setIn_16 : decode prog_7_method_22_code 16 = .ok (.iload 4, 2) := by decide +kernel
theorem d_md_setIn_18 : decode prog_7_method_22_code 18 = .ok (.invokestatic 136, 3) := by decide +kernel
theorem d_md_setIn_21 : decode prog_7_method_22_code 21 = .ok (.iload_n 2, 1) := by decide +kernel
theorem d_md_setIn_22 : decode prog_7_method_22_code 22 = .ok (.if_icmp .ne 10, 3) := by decide +kernel
theorem d_md_setIn_25 : decode prog_7_method_22_code 25 = .ok (.iconst 1, 1) := by decide +kernel
theorem d_md_setIn_26 : decode prog_7_method_22_code 26 = .ok (.iload 4, 2) := by decide +kernel
theorem d_md_setIn_28 : decode prog_7_method_22_code 28 = .ok (.ishl, 1) := by decide +kernel
theorem d_md_setIn_29 : decode prog_7_method_22_code 29 = .ok (.goto 4, 3) := by decide +kernel
theorem d_md_setIn_32 : decode prog_7_method_22_code 32 = .ok (.iconst 0, 1) := by decide +kernel
theorem d_md_setIn_33 : decode prog_7_method_22_code 33 = .ok (.ior, 1) := by decide +kernel
theorem d_md_setIn_34 : decode prog_7_method_22_code 34 = .ok (.istore_n 3, 1) := by decide +kernel
theorem d_md_setIn_35 : decode prog_7_method_22_code 35 = .ok (.iinc 4 1, 3) := by decide +kernel
theorem d_md_setIn_38 : decode prog_7_method_22_code 38 = .ok (.goto (-33), 3) := by decide +kernel
theorem d_md_setIn_41 : decode prog_7_method_22_code 41 = .ok (.iload_n 3, 1) := by decide +kernel
theorem d_md_setIn_42 : decode prog_7_method_22_code 42 = .ok (.ireturn, 1) := by decide +kernel
theorem d_md_costOf_0 : decode prog_7_method_23_code 0 = .ok (.iconst 0, 1) := by decide +kernel
theorem d_md_costOf_1 : decode prog_7_method_23_code 1 = .ok (.istore_n 3, 1) := by decide +kernel
theorem d_md_costOf_2 : decode prog_7_method_23_code 2 = .ok (.iload_n 3, 1) := by decide +kernel
theorem d_md_costOf_3 : decode prog_7_method_23_code 3 = .ok (.bipush 7, 2) := by decide +kernel
theorem d_md_costOf_5 : decode prog_7_method_23_code 5 = .ok (.if_icmp .ge 51, 3) := by decide +kernel
theorem d_md_costOf_8 : decode prog_7_method_23_code 8 = .ok (.iload_n 1, 1) := by decide +kernel
theorem d_md_costOf_9 : decode prog_7_method_23_code 9 = .ok (.iload_n 3, 1) := by decide +kernel
theorem d_md_costOf_10 : decode prog_7_method_23_code 10 = .ok (.invokestatic 136, 3) := by decide +kernel
theorem d_md_costOf_13 : decode prog_7_method_23_code 13 = .ok (.istore 4, 2) := by decide +kernel
theorem d_md_costOf_15 : decode prog_7_method_23_code 15 = .ok (.iload_n 3, 1) := by decide +kernel
theorem d_md_costOf_16 : decode prog_7_method_23_code 16 = .ok (.aload_n 0, 1) := by decide +kernel
theorem d_md_costOf_17 : decode prog_7_method_23_code 17 = .ok (.getfield 78, 3) := by decide +kernel
theorem d_md_costOf_20 : decode prog_7_method_23_code 20 = .ok (.if_icmp .lt 11, 3) := by decide +kernel
theorem d_md_costOf_23 : decode prog_7_method_23_code 23 = .ok (.iload 4, 2) := by decide +kernel
theorem d_md_costOf_25 : decode prog_7_method_23_code 25 = .ok (.ifCond .le 25, 3) := by decide +kernel
theorem d_md_costOf_28 : decode prog_7_method_23_code 28 = .ok (.goto 18, 3) := by decide +kernel
theorem d_md_costOf_31 : decode prog_7_method_23_code 31 = .ok (.iload 4, 2) := by decide +kernel
theorem d_md_costOf_33 : decode prog_7_method_23_code 33 = .ok (.iconst 3, 1) := by decide +kernel
theorem d_md_costOf_34 : decode prog_7_method_23_code 34 = .ok (.if_icmp .ge 16, 3) := by decide +kernel
theorem d_md_costOf_37 : decode prog_7_method_23_code 37 = .ok (.iload 4, 2) := by decide +kernel
theorem d_md_costOf_39 : decode prog_7_method_23_code 39 = .ok (.aload_n 0, 1) := by decide +kernel
theorem d_md_costOf_40 : decode prog_7_method_23_code 40 = .ok (.getfield 99, 3) := by decide +kernel
theorem d_md_costOf_43 : decode prog_7_method_23_code 43 = .ok (.if_icmp .lt 7, 3) := by decide +kernel
theorem d_md_costOf_46 : decode prog_7_method_23_code 46 = .ok (.ldc2_w 139, 3) := by decide +kernel
theorem d_md_costOf_49 : decode prog_7_method_23_code 49 = .ok (.lreturn, 1) := by decide +kernel
theorem d_md_costOf_50 : decode prog_7_method_23_code 50 = .ok (.iinc 3 1, 3) := by decide +kernel
theorem d_md_costOf_53 : decode prog_7_method_23_code 53 = .ok (.goto (-51), 3) := by decide +kernel
theorem d_md_costOf_56 : decode prog_7_method_23_code 56 = .ok (.lconst 0, 1) := by decide +kernel
theorem d_md_costOf_57 : decode prog_7_method_23_code 57 = .ok (.lstore_n 3, 1) := by decide +kernel
theorem d_md_costOf_58 : decode prog_7_method_23_code 58 = .ok (.iconst 0, 1) := by decide +kernel
theorem d_md_costOf_59 : decode prog_7_method_23_code 59 = .ok (.istore 5, 2) := by decide +kernel
theorem d_md_costOf_61 : decode prog_7_method_23_code 61 = .ok (.iload 5, 2) := by decide +kernel
theorem d_md_costOf_63 : decode prog_7_method_23_code 63 = .ok (.aload_n 0, 1) := by decide +kernel
theorem d_md_costOf_64 : decode prog_7_method_23_code 64 = .ok (.getfield 78, 3) := by decide +kernel
theorem d_md_costOf_67 : decode prog_7_method_23_code 67 = .ok (.if_icmp .ge 33, 3) := by decide +kernel
theorem d_md_costOf_70 : decode prog_7_method_23_code 70 = .ok (.lload_n 3, 1) := by decide +kernel
theorem d_md_costOf_71 : decode prog_7_method_23_code 71 = .ok (.iload_n 1, 1) := by decide +kernel
theorem d_md_costOf_72 : decode prog_7_method_23_code 72 = .ok (.iload 5, 2) := by decide +kernel
theorem d_md_costOf_74 : decode prog_7_method_23_code 74 = .ok (.invokestatic 136, 3) := by decide +kernel
theorem d_md_costOf_77 : decode prog_7_method_23_code 77 = .ok (.iconst 3, 1) := by decide +kernel
theorem d_md_costOf_78 : decode prog_7_method_23_code 78 = .ok (.if_icmp .ne 13, 3) := by decide +kernel
theorem d_md_costOf_81 : decode prog_7_method_23_code 81 = .ok (.aload_n 0, 1) := by decide +kernel
theorem d_md_costOf_82 : decode prog_7_method_23_code 82 = .ok (.getfield 22, 3) := by decide +kernel
theorem d_md_costOf_85 : decode prog_7_method_23_code 85 = .ok (.iload 5, 2) := by decide +kernel
theorem d_md_costOf_87 : decode prog_7_method_23_code 87 = .ok (.laload, 1) := by decide +kernel
theorem d_md_costOf_88 : decode prog_7_method_23_code 88 = .ok (.goto 4, 3) := by decide +kernel
theorem d_md_costOf_91 : decode prog_7_method_23_code 91 = .ok (.lconst 0, 1) := by decide +kernel
theorem d_md_costOf_92 : decode prog_7_method_23_code 92 = .ok (.ladd, 1) := by decide +kernel
theorem d_md_costOf_93 : decode prog_7_method_23_code 93 = .ok (.lstore_n 3, 1) := by decide +kernel
theorem d_md_costOf_94 : decode prog_7_method_23_code 94 = .ok (.iinc 5 1, 3) := by decide +kernel
theorem d_md_costOf_97 : decode prog_7_method_23_code 97 = .ok (.goto (-36), 3) := by decide +kernel
theorem d_md_costOf_100 : decode prog_7_method_23_code 100 = .ok (.iconst 0, 1) := by decide +kernel
theorem d_md_costOf_101 : decode prog_7_method_23_code 101 = .ok (.istore 5, 2) := by decide +kernel
theorem d_md_costOf_103 : decode prog_7_method_23_code 103 = .ok (.iload 5, 2) := by decide +kernel
theorem d_md_costOf_105 : decode prog_7_method_23_code 105 = .ok (.aload_n 0, 1) := by decide +kernel
theorem d_md_costOf_106 : decode prog_7_method_23_code 106 = .ok (.getfield 99, 3) := by decide +kernel
theorem d_md_costOf_109 : decode prog_7_method_23_code 109 = .ok (.if_icmp .ge 85, 3) := by decide +kernel
theorem d_md_costOf_112 : decode prog_7_method_23_code 112 = .ok (.aload_n 0, 1) := by decide +kernel
theorem d_md_costOf_113 : decode prog_7_method_23_code 113 = .ok (.iload_n 1, 1) := by decide +kernel
theorem d_md_costOf_114 : decode prog_7_method_23_code 114 = .ok (.iload 5, 2) := by decide +kernel
theorem d_md_costOf_116 : decode prog_7_method_23_code 116 = .ok (.invokevirtual 141, 3) := by decide +kernel
theorem d_md_costOf_119 : decode prog_7_method_23_code 119 = .ok (.istore 6, 2) := by decide +kernel
theorem d_md_costOf_121 : decode prog_7_method_23_code 121 = .ok (.iload 6, 2) := by decide +kernel
theorem d_md_costOf_123 : decode prog_7_method_23_code 123 = .ok (.ifCond .eq 65, 3) := by decide +kernel
theorem d_md_costOf_126 : decode prog_7_method_23_code 126 = .ok (.iload 5, 2) := by decide +kernel
theorem d_md_costOf_128 : decode prog_7_method_23_code 128 = .ok (.iload_n 2, 1) := by decide +kernel
theorem d_md_costOf_129 : decode prog_7_method_23_code 129 = .ok (.if_icmp .eq 20, 3) := by decide +kernel
theorem d_md_costOf_132 : decode prog_7_method_23_code 132 = .ok (.aload_n 0, 1) := by decide +kernel
theorem d_md_costOf_133 : decode prog_7_method_23_code 133 = .ok (.getfield 51, 3) := by decide +kernel
theorem d_md_costOf_136 : decode prog_7_method_23_code 136 = .ok (.sipush 128, 3) := by decide +kernel
theorem d_md_costOf_139 : decode prog_7_method_23_code 139 = .ok (.iload 5, 2) := by decide +kernel
theorem d_md_costOf_141 : decode prog_7_method_23_code 141 = .ok (.imul, 1) := by decide +kernel
theorem d_md_costOf_142 : decode prog_7_method_23_code 142 = .ok (.iload 6, 2) := by decide +kernel
theorem d_md_costOf_144 : decode prog_7_method_23_code 144 = .ok (.iadd, 1) := by decide +kernel
theorem d_md_costOf_145 : decode prog_7_method_23_code 145 = .ok (.iaload, 1) := by decide +kernel
theorem d_md_costOf_146 : decode prog_7_method_23_code 146 = .ok (.ifCond .ge 7, 3) := by decide +kernel
theorem d_md_costOf_149 : decode prog_7_method_23_code 149 = .ok (.ldc2_w 139, 3) := by decide +kernel
theorem d_md_costOf_152 : decode prog_7_method_23_code 152 = .ok (.lreturn, 1) := by decide +kernel
theorem d_md_costOf_153 : decode prog_7_method_23_code 153 = .ok (.lload_n 3, 1) := by decide +kernel
theorem d_md_costOf_154 : decode prog_7_method_23_code 154 = .ok (.aload_n 0, 1) := by decide +kernel
theorem d_md_costOf_155 : decode prog_7_method_23_code 155 = .ok (.getfield 45, 3) := by decide +kernel
theorem d_md_costOf_158 : decode prog_7_method_23_code 158 = .ok (.iload 5, 2) := by decide +kernel
theorem d_md_costOf_160 : decode prog_7_method_23_code 160 = .ok (.iaload, 1) := by decide +kernel
theorem d_md_costOf_161 : decode prog_7_method_23_code 161 = .ok (.i2l, 1) := by decide +kernel
theorem d_md_costOf_162 : decode prog_7_method_23_code 162 = .ok (.aload_n 0, 1) := by decide +kernel
theorem d_md_costOf_163 : decode prog_7_method_23_code 163 = .ok (.getfield 51, 3) := by decide +kernel
theorem d_md_costOf_166 : decode prog_7_method_23_code 166 = .ok (.sipush 128, 3) := by decide +kernel
theorem d_md_costOf_169 : decode prog_7_method_23_code 169 = .ok (.iload 5, 2) := by decide +kernel
theorem d_md_costOf_171 : decode prog_7_method_23_code 171 = .ok (.imul, 1) := by decide +kernel
theorem d_md_costOf_172 : decode prog_7_method_23_code 172 = .ok (.iload 6, 2) := by decide +kernel
theorem d_md_costOf_174 : decode prog_7_method_23_code 174 = .ok (.iadd, 1) := by decide +kernel
theorem d_md_costOf_175 : decode prog_7_method_23_code 175 = .ok (.iaload, 1) := by decide +kernel
theorem d_md_costOf_176 : decode prog_7_method_23_code 176 = .ok (.aload_n 0, 1) := by decide +kernel
theorem d_md_costOf_177 : decode prog_7_method_23_code 177 = .ok (.getfield 39, 3) := by decide +kernel
theorem d_md_costOf_180 : decode prog_7_method_23_code 180 = .ok (.iload 5, 2) := by decide +kernel
theorem d_md_costOf_182 : decode prog_7_method_23_code 182 = .ok (.iaload, 1) := by decide +kernel
theorem d_md_costOf_183 : decode prog_7_method_23_code 183 = .ok (.isub, 1) := by decide +kernel
theorem d_md_costOf_184 : decode prog_7_method_23_code 184 = .ok (.i2l, 1) := by decide +kernel
theorem d_md_costOf_185 : decode prog_7_method_23_code 185 = .ok (.lmul, 1) := by decide +kernel
theorem d_md_costOf_186 : decode prog_7_method_23_code 186 = .ok (.ladd, 1) := by decide +kernel
theorem d_md_costOf_187 : decode prog_7_method_23_code 187 = .ok (.lstore_n 3, 1) := by decide +kernel
theorem d_md_costOf_188 : decode prog_7_method_23_code 188 = .ok (.iinc 5 1, 3) := by decide +kernel
theorem d_md_costOf_191 : decode prog_7_method_23_code 191 = .ok (.goto (-88), 3) := by decide +kernel
theorem d_md_costOf_194 : decode prog_7_method_23_code 194 = .ok (.lload_n 3, 1) := by decide +kernel
theorem d_md_costOf_195 : decode prog_7_method_23_code 195 = .ok (.lreturn, 1) := by decide +kernel
theorem d_md_bestPlan_0 : decode prog_7_method_24_code 0 = .ok (.iconst (-1), 1) := by decide +kernel
theorem d_md_bestPlan_1 : decode prog_7_method_24_code 1 = .ok (.istore_n 2, 1) := by decide +kernel
theorem d_md_bestPlan_2 : decode prog_7_method_24_code 2 = .ok (.lconst 0, 1) := by decide +kernel
theorem d_md_bestPlan_3 : decode prog_7_method_24_code 3 = .ok (.lstore_n 3, 1) := by decide +kernel
theorem d_md_bestPlan_4 : decode prog_7_method_24_code 4 = .ok (.iconst 0, 1) := by decide +kernel
theorem d_md_bestPlan_5 : decode prog_7_method_24_code 5 = .ok (.istore 5, 2) := by decide +kernel
theorem d_md_bestPlan_7 : decode prog_7_method_24_code 7 = .ok (.iload 5, 2) := by decide +kernel
theorem d_md_bestPlan_9 : decode prog_7_method_24_code 9 = .ok (.sipush 16384, 3) := by decide +kernel
theorem d_md_bestPlan_12 : decode prog_7_method_24_code 12 = .ok (.if_icmp .ge 42, 3) := by decide +kernel
theorem d_md_bestPlan_15 : decode prog_7_method_24_code 15 = .ok (.aload_n 0, 1) := by decide +kernel
theorem d_md_bestPlan_16 : decode prog_7_method_24_code 16 = .ok (.iload 5, 2) := by decide +kernel
theorem d_md_bestPlan_18 : decode prog_7_method_24_code 18 = .ok (.iload_n 1, 1) := by decide +kernel
theorem d_md_bestPlan_19 : decode prog_7_method_24_code 19 = .ok (.invokevirtual 144, 3) := by decide +kernel
theorem d_md_bestPlan_22 : decode prog_7_method_24_code 22 = .ok (.lstore 6, 2) := by decide +kernel
theorem d_md_bestPlan_24 : decode prog_7_method_24_code 24 = .ok (.lload 6, 2) := by decide +kernel
theorem d_md_bestPlan_26 : decode prog_7_method_24_code 26 = .ok (.lconst 0, 1) := by decide +kernel
theorem d_md_bestPlan_27 : decode prog_7_method_24_code 27 = .ok (.lcmp, 1) := by decide +kernel
theorem d_md_bestPlan_28 : decode prog_7_method_24_code 28 = .ok (.ifCond .lt 20, 3) := by decide +kernel
theorem d_md_bestPlan_31 : decode prog_7_method_24_code 31 = .ok (.iload_n 2, 1) := by decide +kernel
theorem d_md_bestPlan_32 : decode prog_7_method_24_code 32 = .ok (.ifCond .lt 10, 3) := by decide +kernel
theorem d_md_bestPlan_35 : decode prog_7_method_24_code 35 = .ok (.lload 6, 2) := by decide +kernel
theorem d_md_bestPlan_37 : decode prog_7_method_24_code 37 = .ok (.lload_n 3, 1) := by decide +kernel
theorem d_md_bestPlan_38 : decode prog_7_method_24_code 38 = .ok (.lcmp, 1) := by decide +kernel
theorem d_md_bestPlan_39 : decode prog_7_method_24_code 39 = .ok (.ifCond .ge 9, 3) := by decide +kernel
theorem d_md_bestPlan_42 : decode prog_7_method_24_code 42 = .ok (.iload 5, 2) := by decide +kernel
theorem d_md_bestPlan_44 : decode prog_7_method_24_code 44 = .ok (.istore_n 2, 1) := by decide +kernel
theorem d_md_bestPlan_45 : decode prog_7_method_24_code 45 = .ok (.lload 6, 2) := by decide +kernel
theorem d_md_bestPlan_47 : decode prog_7_method_24_code 47 = .ok (.lstore_n 3, 1) := by decide +kernel
theorem d_md_bestPlan_48 : decode prog_7_method_24_code 48 = .ok (.iinc 5 1, 3) := by decide +kernel
theorem d_md_bestPlan_51 : decode prog_7_method_24_code 51 = .ok (.goto (-44), 3) := by decide +kernel
theorem d_md_bestPlan_54 : decode prog_7_method_24_code 54 = .ok (.iload_n 2, 1) := by decide +kernel
theorem d_md_bestPlan_55 : decode prog_7_method_24_code 55 = .ok (.ireturn, 1) := by decide +kernel
theorem d_md_run_0 : decode prog_7_method_25_code 0 = .ok (.iconst 0, 1) := by decide +kernel
theorem d_md_run_1 : decode prog_7_method_25_code 1 = .ok (.istore_n 1, 1) := by decide +kernel
theorem d_md_run_2 : decode prog_7_method_25_code 2 = .ok (.iload_n 1, 1) := by decide +kernel
theorem d_md_run_3 : decode prog_7_method_25_code 3 = .ok (.aload_n 0, 1) := by decide +kernel
theorem d_md_run_4 : decode prog_7_method_25_code 4 = .ok (.getfield 99, 3) := by decide +kernel
theorem d_md_run_7 : decode prog_7_method_25_code 7 = .ok (.if_icmp .ge 14, 3) := by decide +kernel
theorem d_md_run_10 : decode prog_7_method_25_code 10 = .ok (.aload_n 0, 1) := by decide +kernel
theorem d_md_run_11 : decode prog_7_method_25_code 11 = .ok (.iload_n 1, 1) := by decide +kernel
theorem d_md_run_12 : decode prog_7_method_25_code 12 = .ok (.invokevirtual 148, 3) := by decide +kernel
theorem d_md_run_15 : decode prog_7_method_25_code 15 = .ok (.iinc 1 1, 3) := by decide +kernel
theorem d_md_run_18 : decode prog_7_method_25_code 18 = .ok (.goto (-16), 3) := by decide +kernel
theorem d_md_run_21 : decode prog_7_method_25_code 21 = .ok (.aload_n 0, 1) := by decide +kernel
theorem d_md_run_22 : decode prog_7_method_25_code 22 = .ok (.iconst (-1), 1) := by decide +kernel
theorem d_md_run_23 : decode prog_7_method_25_code 23 = .ok (.invokevirtual 152, 3) := by decide +kernel
theorem d_md_run_26 : decode prog_7_method_25_code 26 = .ok (.istore_n 1, 1) := by decide +kernel
theorem d_md_run_27 : decode prog_7_method_25_code 27 = .ok (.aload_n 0, 1) := by decide +kernel
theorem d_md_run_28 : decode prog_7_method_25_code 28 = .ok (.aload_n 0, 1) := by decide +kernel
theorem d_md_run_29 : decode prog_7_method_25_code 29 = .ok (.iload_n 1, 1) := by decide +kernel
theorem d_md_run_30 : decode prog_7_method_25_code 30 = .ok (.iconst (-1), 1) := by decide +kernel
theorem d_md_run_31 : decode prog_7_method_25_code 31 = .ok (.invokevirtual 144, 3) := by decide +kernel
theorem d_md_run_34 : decode prog_7_method_25_code 34 = .ok (.putfield 155, 3) := by decide +kernel
theorem d_md_run_37 : decode prog_7_method_25_code 37 = .ok (.aload_n 0, 1) := by decide +kernel
theorem d_md_run_38 : decode prog_7_method_25_code 38 = .ok (.iconst 1, 1) := by decide +kernel
theorem d_md_run_39 : decode prog_7_method_25_code 39 = .ok (.putfield 159, 3) := by decide +kernel
theorem d_md_run_42 : decode prog_7_method_25_code 42 = .ok (.aload_n 0, 1) := by decide +kernel
theorem d_md_run_43 : decode prog_7_method_25_code 43 = .ok (.aload_n 0, 1) := by decide +kernel
theorem d_md_run_44 : decode prog_7_method_25_code 44 = .ok (.getfield 78, 3) := by decide +kernel
theorem d_md_run_47 : decode prog_7_method_25_code 47 = .ok (.putfield 163, 3) := by decide +kernel
theorem d_md_run_50 : decode prog_7_method_25_code 50 = .ok (.aload_n 0, 1) := by decide +kernel
theorem d_md_run_51 : decode prog_7_method_25_code 51 = .ok (.aload_n 0, 1) := by decide +kernel
theorem d_md_run_52 : decode prog_7_method_25_code 52 = .ok (.getfield 99, 3) := by decide +kernel
theorem d_md_run_55 : decode prog_7_method_25_code 55 = .ok (.putfield 166, 3) := by decide +kernel
theorem d_md_run_58 : decode prog_7_method_25_code 58 = .ok (.iconst 0, 1) := by decide +kernel
theorem d_md_run_59 : decode prog_7_method_25_code 59 = .ok (.istore_n 2, 1) := by decide +kernel
theorem d_md_run_60 : decode prog_7_method_25_code 60 = .ok (.iload_n 2, 1) := by decide +kernel
theorem d_md_run_61 : decode prog_7_method_25_code 61 = .ok (.aload_n 0, 1) := by decide +kernel
theorem d_md_run_62 : decode prog_7_method_25_code 62 = .ok (.getfield 99, 3) := by decide +kernel
theorem d_md_run_65 : decode prog_7_method_25_code 65 = .ok (.if_icmp .ge 30, 3) := by decide +kernel
theorem d_md_run_68 : decode prog_7_method_25_code 68 = .ok (.aload_n 0, 1) := by decide +kernel
theorem d_md_run_69 : decode prog_7_method_25_code 69 = .ok (.getfield 75, 3) := by decide +kernel
theorem d_md_run_72 : decode prog_7_method_25_code 72 = .ok (.iload_n 2, 1) := by decide +kernel
theorem d_md_run_73 : decode prog_7_method_25_code 73 = .ok (.aload_n 0, 1) := by decide +kernel
theorem d_md_run_74 : decode prog_7_method_25_code 74 = .ok (.aload_n 0, 1) := by decide +kernel
theorem d_md_run_75 : decode prog_7_method_25_code 75 = .ok (.iload_n 2, 1) := by decide +kernel
theorem d_md_run_76 : decode prog_7_method_25_code 76 = .ok (.invokevirtual 152, 3) := by decide +kernel
theorem d_md_run_79 : decode prog_7_method_25_code 79 = .ok (.iload_n 2, 1) := by decide +kernel
theorem d_md_run_80 : decode prog_7_method_25_code 80 = .ok (.invokevirtual 144, 3) := by decide +kernel
theorem d_md_run_83 : decode prog_7_method_25_code 83 = .ok (.aload_n 0, 1) := by decide +kernel
theorem d_md_run_84 : decode prog_7_method_25_code 84 = .ok (.getfield 155, 3) := by decide +kernel
theorem d_md_run_87 : decode prog_7_method_25_code 87 = .ok (.lsub, 1) := by decide +kernel
theorem d_md_run_88 : decode prog_7_method_25_code 88 = .ok (.lastore, 1) := by decide +kernel
theorem d_md_run_89 : decode prog_7_method_25_code 89 = .ok (.iinc 2 1, 3) := by decide +kernel
theorem d_md_run_92 : decode prog_7_method_25_code 92 = .ok (.goto (-32), 3) := by decide +kernel
theorem d_md_run_95 : decode prog_7_method_25_code 95 = .ok (.iconst 0, 1) := by decide +kernel
theorem d_md_run_96 : decode prog_7_method_25_code 96 = .ok (.istore_n 2, 1) := by decide +kernel
theorem d_md_run_97 : decode prog_7_method_25_code 97 = .ok (.iconst 0, 1) := by decide +kernel
theorem d_md_run_98 : decode prog_7_method_25_code 98 = .ok (.istore_n 3, 1) := by decide +kernel
theorem d_md_run_99 : decode prog_7_method_25_code 99 = .ok (.iload_n 3, 1) := by decide +kernel
theorem d_md_run_100 : decode prog_7_method_25_code 100 = .ok (.aload_n 0, 1) := by decide +kernel
theorem d_md_run_101 : decode prog_7_method_25_code 101 = .ok (.getfield 78, 3) := by decide +kernel
theorem d_md_run_104 : decode prog_7_method_25_code 104 = .ok (.if_icmp .ge 45, 3) := by decide +kernel
theorem d_md_run_107 : decode prog_7_method_25_code 107 = .ok (.aload_n 0, 1) := by decide +kernel
theorem d_md_run_108 : decode prog_7_method_25_code 108 = .ok (.getfield 60, 3) := by decide +kernel
theorem d_md_run_111 : decode prog_7_method_25_code 111 = .ok (.iload_n 3, 1) := by decide +kernel
theorem d_md_run_112 : decode prog_7_method_25_code 112 = .ok (.iload_n 1, 1) := by decide +kernel
theorem d_md_run_113 : decode prog_7_method_25_code 113 = .ok (.iload_n 3, 1) := by decide +kernel
theorem d_md_run_114 : decode prog_7_method_25_code 114 = .ok (.invokestatic 136, 3) := by decide +kernel
theorem d_md_run_117 : decode prog_7_method_25_code 117 = .ok (.iastore, 1) := by decide +kernel
theorem d_md_run_118 : decode prog_7_method_25_code 118 = .ok (.iload_n 2, 1) := by decide +kernel
theorem d_md_run_119 : decode prog_7_method_25_code 119 = .ok (.aload_n 0, 1) := by decide +kernel
theorem d_md_run_120 : decode prog_7_method_25_code 120 = .ok (.getfield 60, 3) := by decide +kernel
theorem d_md_run_123 : decode prog_7_method_25_code 123 = .ok (.iload_n 3, 1) := by decide +kernel
theorem d_md_run_124 : decode prog_7_method_25_code 124 = .ok (.iaload, 1) := by decide +kernel
theorem d_md_run_125 : decode prog_7_method_25_code 125 = .ok (.iconst 3, 1) := by decide +kernel
theorem d_md_run_126 : decode prog_7_method_25_code 126 = .ok (.if_icmp .ne 7, 3) := by decide +kernel
theorem d_md_run_129 : decode prog_7_method_25_code 129 = .ok (.iconst 1, 1) := by decide +kernel
theorem d_md_run_130 : decode prog_7_method_25_code 130 = .ok (.goto 4, 3) := by decide +kernel
theorem d_md_run_133 : decode prog_7_method_25_code 133 = .ok (.iconst 0, 1) := by decide +kernel
theorem d_md_run_134 : decode prog_7_method_25_code 134 = .ok (.iadd, 1) := by decide +kernel
theorem d_md_run_135 : decode prog_7_method_25_code 135 = .ok (.istore_n 2, 1) := by decide +kernel
theorem d_md_run_136 : decode prog_7_method_25_code 136 = .ok (.aload_n 0, 1) := by decide +kernel
theorem d_md_run_137 : decode prog_7_method_25_code 137 = .ok (.getfield 63, 3) := by decide +kernel
theorem d_md_run_140 : decode prog_7_method_25_code 140 = .ok (.iload_n 3, 1) := by decide +kernel
theorem d_md_run_141 : decode prog_7_method_25_code 141 = .ok (.iconst (-1), 1) := by decide +kernel
theorem d_md_run_142 : decode prog_7_method_25_code 142 = .ok (.iastore, 1) := by decide +kernel
theorem d_md_run_143 : decode prog_7_method_25_code 143 = .ok (.iinc 3 1, 3) := by decide +kernel
theorem d_md_run_146 : decode prog_7_method_25_code 146 = .ok (.goto (-47), 3) := by decide +kernel
theorem d_md_run_149 : decode prog_7_method_25_code 149 = .ok (.iconst 0, 1) := by decide +kernel
theorem d_md_run_150 : decode prog_7_method_25_code 150 = .ok (.istore_n 3, 1) := by decide +kernel
theorem d_md_run_151 : decode prog_7_method_25_code 151 = .ok (.iload_n 3, 1) := by decide +kernel
theorem d_md_run_152 : decode prog_7_method_25_code 152 = .ok (.aload_n 0, 1) := by decide +kernel
theorem d_md_run_153 : decode prog_7_method_25_code 153 = .ok (.getfield 99, 3) := by decide +kernel
theorem d_md_run_156 : decode prog_7_method_25_code 156 = .ok (.if_icmp .ge 20, 3) := by decide +kernel
theorem d_md_run_159 : decode prog_7_method_25_code 159 = .ok (.aload_n 0, 1) := by decide +kernel
theorem d_md_run_160 : decode prog_7_method_25_code 160 = .ok (.iload_n 3, 1) := by decide +kernel
theorem d_md_run_161 : decode prog_7_method_25_code 161 = .ok (.aload_n 0, 1) := by decide +kernel
theorem d_md_run_162 : decode prog_7_method_25_code 162 = .ok (.iload_n 1, 1) := by decide +kernel
theorem d_md_run_163 : decode prog_7_method_25_code 163 = .ok (.iload_n 3, 1) := by decide +kernel
theorem d_md_run_164 : decode prog_7_method_25_code 164 = .ok (.invokevirtual 141, 3) := by decide +kernel
theorem d_md_run_167 : decode prog_7_method_25_code 167 = .ok (.invokevirtual 169, 3) := by decide +kernel
theorem d_md_run_170 : decode prog_7_method_25_code 170 = .ok (.iinc 3 1, 3) := by decide +kernel
theorem d_md_run_173 : decode prog_7_method_25_code 173 = .ok (.goto (-22), 3) := by decide +kernel
theorem d_md_run_176 : decode prog_7_method_25_code 176 = .ok (.iconst 0, 1) := by decide +kernel
theorem d_md_run_177 : decode prog_7_method_25_code 177 = .ok (.istore_n 3, 1) := by decide +kernel
theorem d_md_run_178 : decode prog_7_method_25_code 178 = .ok (.iload_n 3, 1) := by decide +kernel
theorem d_md_run_179 : decode prog_7_method_25_code 179 = .ok (.aload_n 0, 1) := by decide +kernel
theorem d_md_run_180 : decode prog_7_method_25_code 180 = .ok (.getfield 78, 3) := by decide +kernel
theorem d_md_run_183 : decode prog_7_method_25_code 183 = .ok (.if_icmp .ge 35, 3) := by decide +kernel
theorem d_md_run_186 : decode prog_7_method_25_code 186 = .ok (.aload_n 0, 1) := by decide +kernel
theorem d_md_run_187 : decode prog_7_method_25_code 187 = .ok (.getfield 63, 3) := by decide +kernel
theorem d_md_run_190 : decode prog_7_method_25_code 190 = .ok (.iload_n 3, 1) := by decide +kernel
theorem d_md_run_191 : decode prog_7_method_25_code 191 = .ok (.aload_n 0, 1) := by decide +kernel
theorem d_md_run_192 : decode prog_7_method_25_code 192 = .ok (.getfield 60, 3) := by decide +kernel
theorem d_md_run_195 : decode prog_7_method_25_code 195 = .ok (.iload_n 3, 1) := by decide +kernel
theorem d_md_run_196 : decode prog_7_method_25_code 196 = .ok (.iaload, 1) := by decide +kernel
theorem d_md_run_197 : decode prog_7_method_25_code 197 = .ok (.iconst 3, 1) := by decide +kernel
theorem d_md_run_198 : decode prog_7_method_25_code 198 = .ok (.if_icmp .ne 7, 3) := by decide +kernel
theorem d_md_run_201 : decode prog_7_method_25_code 201 = .ok (.iconst (-1), 1) := by decide +kernel
theorem d_md_run_202 : decode prog_7_method_25_code 202 = .ok (.goto 9, 3) := by decide +kernel
theorem d_md_run_205 : decode prog_7_method_25_code 205 = .ok (.aload_n 0, 1) := by decide +kernel
theorem d_md_run_206 : decode prog_7_method_25_code 206 = .ok (.getfield 63, 3) := by decide +kernel
theorem d_md_run_209 : decode prog_7_method_25_code 209 = .ok (.iload_n 3, 1) := by decide +kernel
theorem d_md_run_210 : decode prog_7_method_25_code 210 = .ok (.iaload, 1) := by decide +kernel
theorem d_md_run_211 : decode prog_7_method_25_code 211 = .ok (.iastore, 1) := by decide +kernel
theorem d_md_run_212 : decode prog_7_method_25_code 212 = .ok (.iinc 3 1, 3) := by decide +kernel
theorem d_md_run_215 : decode prog_7_method_25_code 215 = .ok (.goto (-37), 3) := by decide +kernel
theorem d_md_run_218 : decode prog_7_method_25_code 218 = .ok (.iload_n 2, 1) := by decide +kernel
theorem d_md_run_219 : decode prog_7_method_25_code 219 = .ok (.ireturn, 1) := by decide +kernel
theorem d_md_tellRound_0 : decode prog_7_method_26_code 0 = .ok (.aload_n 0, 1) := by decide +kernel
theorem d_md_tellRound_1 : decode prog_7_method_26_code 1 = .ok (.getfield 69, 3) := by decide +kernel
theorem d_md_tellRound_4 : decode prog_7_method_26_code 4 = .ok (.iload_n 1, 1) := by decide +kernel
theorem d_md_tellRound_5 : decode prog_7_method_26_code 5 = .ok (.iconst 0, 1) := by decide +kernel
theorem d_md_tellRound_6 : decode prog_7_method_26_code 6 = .ok (.iastore, 1) := by decide +kernel
theorem d_md_tellRound_7 : decode prog_7_method_26_code 7 = .ok (.iconst 0, 1) := by decide +kernel
theorem d_md_tellRound_8 : decode prog_7_method_26_code 8 = .ok (.istore_n 3, 1) := by decide +kernel
theorem d_md_tellRound_9 : decode prog_7_method_26_code 9 = .ok (.iload_n 3, 1) := by decide +kernel
theorem d_md_tellRound_10 : decode prog_7_method_26_code 10 = .ok (.aload_n 0, 1) := by decide +kernel
theorem d_md_tellRound_11 : decode prog_7_method_26_code 11 = .ok (.getfield 78, 3) := by decide +kernel
theorem d_md_tellRound_14 : decode prog_7_method_26_code 14 = .ok (.if_icmp .ge 23, 3) := by decide +kernel
theorem d_md_tellRound_17 : decode prog_7_method_26_code 17 = .ok (.aload_n 0, 1) := by decide +kernel
theorem d_md_tellRound_18 : decode prog_7_method_26_code 18 = .ok (.getfield 69, 3) := by decide +kernel
theorem d_md_tellRound_21 : decode prog_7_method_26_code 21 = .ok (.iload_n 1, 1) := by decide +kernel
theorem d_md_tellRound_22 : decode prog_7_method_26_code 22 = .ok (.dup2, 1) := by decide +kernel
theorem d_md_tellRound_23 : decode prog_7_method_26_code 23 = .ok (.iaload, 1) := by decide +kernel
theorem d_md_tellRound_24 : decode prog_7_method_26_code 24 = .ok (.iload_n 2, 1) := by decide +kernel
theorem d_md_tellRound_25 : decode prog_7_method_26_code 25 = .ok (.iload_n 3, 1) := by decide +kernel
theorem d_md_tellRound_26 : decode prog_7_method_26_code 26 = .ok (.ishr, 1) := by decide +kernel
theorem d_md_tellRound_27 : decode prog_7_method_26_code 27 = .ok (.iconst 1, 1) := by decide +kernel
theorem d_md_tellRound_28 : decode prog_7_method_26_code 28 = .ok (.iand, 1) := by decide +kernel
theorem d_md_tellRound_29 : decode prog_7_method_26_code 29 = .ok (.iadd, 1) := by decide +kernel
theorem d_md_tellRound_30 : decode prog_7_method_26_code 30 = .ok (.iastore, 1) := by decide +kernel
theorem d_md_tellRound_31 : decode prog_7_method_26_code 31 = .ok (.iinc 3 1, 3) := by decide +kernel
theorem d_md_tellRound_34 : decode prog_7_method_26_code 34 = .ok (.goto (-25), 3) := by decide +kernel
theorem d_md_tellRound_37 : decode prog_7_method_26_code 37 = .ok (.aload_n 0, 1) := by decide +kernel
theorem d_md_tellRound_38 : decode prog_7_method_26_code 38 = .ok (.getfield 72, 3) := by decide +kernel
theorem d_md_tellRound_41 : decode prog_7_method_26_code 41 = .ok (.iload_n 1, 1) := by decide +kernel
theorem d_md_tellRound_42 : decode prog_7_method_26_code 42 = .ok (.iconst (-1), 1) := by decide +kernel
theorem d_md_tellRound_43 : decode prog_7_method_26_code 43 = .ok (.iastore, 1) := by decide +kernel
theorem d_md_tellRound_44 : decode prog_7_method_26_code 44 = .ok (.iload_n 2, 1) := by decide +kernel
theorem d_md_tellRound_45 : decode prog_7_method_26_code 45 = .ok (.ifCond .eq 75, 3) := by decide +kernel
theorem d_md_tellRound_48 : decode prog_7_method_26_code 48 = .ok (.aload_n 0, 1) := by decide +kernel
theorem d_md_tellRound_49 : decode prog_7_method_26_code 49 = .ok (.getfield 66, 3) := by decide +kernel
theorem d_md_tellRound_52 : decode prog_7_method_26_code 52 = .ok (.iload_n 1, 1) := by decide +kernel
theorem d_md_tellRound_53 : decode prog_7_method_26_code 53 = .ok (.aload_n 0, 1) := by decide +kernel
theorem d_md_tellRound_54 : decode prog_7_method_26_code 54 = .ok (.getfield 54, 3) := by decide +kernel
theorem d_md_tellRound_57 : decode prog_7_method_26_code 57 = .ok (.sipush 128, 3) := by decide +kernel
theorem d_md_tellRound_60 : decode prog_7_method_26_code 60 = .ok (.iload_n 1, 1) := by decide +kernel
theorem d_md_tellRound_61 : decode prog_7_method_26_code 61 = .ok (.imul, 1) := by decide +kernel
theorem d_md_tellRound_62 : decode prog_7_method_26_code 62 = .ok (.iload_n 2, 1) := by decide +kernel
theorem d_md_tellRound_63 : decode prog_7_method_26_code 63 = .ok (.iadd, 1) := by decide +kernel
theorem d_md_tellRound_64 : decode prog_7_method_26_code 64 = .ok (.iaload, 1) := by decide +kernel
theorem d_md_tellRound_65 : decode prog_7_method_26_code 65 = .ok (.iastore, 1) := by decide +kernel
theorem d_md_tellRound_66 : decode prog_7_method_26_code 66 = .ok (.iconst 0, 1) := by decide +kernel
theorem d_md_tellRound_67 : decode prog_7_method_26_code 67 = .ok (.istore_n 3, 1) := by decide +kernel
theorem d_md_tellRound_68 : decode prog_7_method_26_code 68 = .ok (.iload_n 3, 1) := by decide +kernel
theorem d_md_tellRound_69 : decode prog_7_method_26_code 69 = .ok (.aload_n 0, 1) := by decide +kernel
theorem d_md_tellRound_70 : decode prog_7_method_26_code 70 = .ok (.getfield 69, 3) := by decide +kernel
theorem d_md_tellRound_73 : decode prog_7_method_26_code 73 = .ok (.iload_n 1, 1) := by decide +kernel
theorem d_md_tellRound_74 : decode prog_7_method_26_code 74 = .ok (.iaload, 1) := by decide +kernel
theorem d_md_tellRound_75 : decode prog_7_method_26_code 75 = .ok (.if_icmp .ge 28, 3) := by decide +kernel
theorem d_md_tellRound_78 : decode prog_7_method_26_code 78 = .ok (.aload_n 0, 1) := by decide +kernel
theorem d_md_tellRound_79 : decode prog_7_method_26_code 79 = .ok (.getfield 57, 3) := by decide +kernel
theorem d_md_tellRound_82 : decode prog_7_method_26_code 82 = .ok (.iload_n 3, 1) := by decide +kernel
theorem d_md_tellRound_83 : decode prog_7_method_26_code 83 = .ok (.aload_n 0, 1) := by decide +kernel
theorem d_md_tellRound_84 : decode prog_7_method_26_code 84 = .ok (.getfield 66, 3) := by decide +kernel
theorem d_md_tellRound_87 : decode prog_7_method_26_code 87 = .ok (.iload_n 1, 1) := by decide +kernel
theorem d_md_tellRound_88 : decode prog_7_method_26_code 88 = .ok (.iaload, 1) := by decide +kernel
theorem d_md_tellRound_89 : decode prog_7_method_26_code 89 = .ok (.iconst 3, 1) := by decide +kernel
theorem d_md_tellRound_90 : decode prog_7_method_26_code 90 = .ok (.iload_n 3, 1) := by decide +kernel
theorem d_md_tellRound_91 : decode prog_7_method_26_code 91 = .ok (.imul, 1) := by decide +kernel
theorem d_md_tellRound_92 : decode prog_7_method_26_code 92 = .ok (.ishr, 1) := by decide +kernel
theorem d_md_tellRound_93 : decode prog_7_method_26_code 93 = .ok (.bipush 7, 2) := by decide +kernel
theorem d_md_tellRound_95 : decode prog_7_method_26_code 95 = .ok (.iand, 1) := by decide +kernel
theorem d_md_tellRound_96 : decode prog_7_method_26_code 96 = .ok (.iastore, 1) := by decide +kernel
theorem d_md_tellRound_97 : decode prog_7_method_26_code 97 = .ok (.iinc 3 1, 3) := by decide +kernel
theorem d_md_tellRound_100 : decode prog_7_method_26_code 100 = .ok (.goto (-32), 3) := by decide +kernel
theorem d_md_tellRound_103 : decode prog_7_method_26_code 103 = .ok (.aload_n 0, 1) := by decide +kernel
theorem d_md_tellRound_104 : decode prog_7_method_26_code 104 = .ok (.getfield 72, 3) := by decide +kernel
theorem d_md_tellRound_107 : decode prog_7_method_26_code 107 = .ok (.iload_n 1, 1) := by decide +kernel
theorem d_md_tellRound_108 : decode prog_7_method_26_code 108 = .ok (.aload_n 0, 1) := by decide +kernel
theorem d_md_tellRound_109 : decode prog_7_method_26_code 109 = .ok (.iload_n 1, 1) := by decide +kernel
theorem d_md_tellRound_110 : decode prog_7_method_26_code 110 = .ok (.aload_n 0, 1) := by decide +kernel
theorem d_md_tellRound_111 : decode prog_7_method_26_code 111 = .ok (.getfield 69, 3) := by decide +kernel
theorem d_md_tellRound_114 : decode prog_7_method_26_code 114 = .ok (.iload_n 1, 1) := by decide +kernel
theorem d_md_tellRound_115 : decode prog_7_method_26_code 115 = .ok (.iaload, 1) := by decide +kernel
theorem d_md_tellRound_116 : decode prog_7_method_26_code 116 = .ok (.invokevirtual 125, 3) := by decide +kernel
theorem d_md_tellRound_119 : decode prog_7_method_26_code 119 = .ok (.iastore, 1) := by decide +kernel
theorem d_md_tellRound_120 : decode prog_7_method_26_code 120 = .ok (.return_, 1) := by decide +kernel
theorem d_md_cost_0 : decode prog_7_method_27_code 0 = .ok (.aload_n 0, 1) := by decide +kernel
theorem d_md_cost_1 : decode prog_7_method_27_code 1 = .ok (.getfield 159, 3) := by decide +kernel
theorem d_md_cost_4 : decode prog_7_method_27_code 4 = .ok (.ifCond .eq 10, 3) := by decide +kernel
theorem d_md_cost_7 : decode prog_7_method_27_code 7 = .ok (.aload_n 0, 1) := by decide +kernel
theorem d_md_cost_8 : decode prog_7_method_27_code 8 = .ok (.getfield 155, 3) := by decide +kernel
theorem d_md_cost_11 : decode prog_7_method_27_code 11 = .ok (.goto 6, 3) := by decide +kernel
theorem d_md_cost_14 : decode prog_7_method_27_code 14 = .ok (.ldc2_w 139, 3) := by decide +kernel
theorem d_md_cost_17 : decode prog_7_method_27_code 17 = .ok (.lreturn, 1) := by decide +kernel
theorem d_md_vehicleOf_0 : decode prog_7_method_28_code 0 = .ok (.iload_n 1, 1) := by decide +kernel
theorem d_md_vehicleOf_1 : decode prog_7_method_28_code 1 = .ok (.ifCond .lt 20, 3) := by decide +kernel
theorem d_md_vehicleOf_4 : decode prog_7_method_28_code 4 = .ok (.iload_n 1, 1) := by decide +kernel
theorem d_md_vehicleOf_5 : decode prog_7_method_28_code 5 = .ok (.aload_n 0, 1) := by decide +kernel
theorem d_md_vehicleOf_6 : decode prog_7_method_28_code 6 = .ok (.getfield 163, 3) := by decide +kernel
theorem d_md_vehicleOf_9 : decode prog_7_method_28_code 9 = .ok (.if_icmp .ge 12, 3) := by decide +kernel
theorem d_md_vehicleOf_12 : decode prog_7_method_28_code 12 = .ok (.aload_n 0, 1) := by decide +kernel
theorem d_md_vehicleOf_13 : decode prog_7_method_28_code 13 = .ok (.getfield 60, 3) := by decide +kernel
theorem d_md_vehicleOf_16 : decode prog_7_method_28_code 16 = .ok (.iload_n 1, 1) := by decide +kernel
theorem d_md_vehicleOf_17 : decode prog_7_method_28_code 17 = .ok (.iaload, 1) := by decide +kernel
theorem d_md_vehicleOf_18 : decode prog_7_method_28_code 18 = .ok (.goto 4, 3) := by decide +kernel
theorem d_md_vehicleOf_21 : decode prog_7_method_28_code 21 = .ok (.iconst (-1), 1) := by decide +kernel
theorem d_md_vehicleOf_22 : decode prog_7_method_28_code 22 = .ok (.ireturn, 1) := by decide +kernel
theorem d_md_at_0 : decode prog_7_method_29_code 0 = .ok (.iload_n 1, 1) := by decide +kernel
theorem d_md_at_1 : decode prog_7_method_29_code 1 = .ok (.ifCond .lt 41, 3) := by decide +kernel
theorem d_md_at_4 : decode prog_7_method_29_code 4 = .ok (.iload_n 1, 1) := by decide +kernel
theorem d_md_at_5 : decode prog_7_method_29_code 5 = .ok (.aload_n 0, 1) := by decide +kernel
theorem d_md_at_6 : decode prog_7_method_29_code 6 = .ok (.getfield 166, 3) := by decide +kernel
theorem d_md_at_9 : decode prog_7_method_29_code 9 = .ok (.if_icmp .ge 33, 3) := by decide +kernel
theorem d_md_at_12 : decode prog_7_method_29_code 12 = .ok (.iload_n 2, 1) := by decide +kernel
theorem d_md_at_13 : decode prog_7_method_29_code 13 = .ok (.ifCond .lt 29, 3) := by decide +kernel
theorem d_md_at_16 : decode prog_7_method_29_code 16 = .ok (.iload_n 2, 1) := by decide +kernel
theorem d_md_at_17 : decode prog_7_method_29_code 17 = .ok (.aload_n 0, 1) := by decide +kernel
theorem d_md_at_18 : decode prog_7_method_29_code 18 = .ok (.getfield 69, 3) := by decide +kernel
theorem d_md_at_21 : decode prog_7_method_29_code 21 = .ok (.iload_n 1, 1) := by decide +kernel
theorem d_md_at_22 : decode prog_7_method_29_code 22 = .ok (.iaload, 1) := by decide +kernel
theorem d_md_at_23 : decode prog_7_method_29_code 23 = .ok (.if_icmp .ge 19, 3) := by decide +kernel
theorem d_md_at_26 : decode prog_7_method_29_code 26 = .ok (.aload_n 0, 1) := by decide +kernel
theorem d_md_at_27 : decode prog_7_method_29_code 27 = .ok (.getfield 66, 3) := by decide +kernel
theorem d_md_at_30 : decode prog_7_method_29_code 30 = .ok (.iload_n 1, 1) := by decide +kernel
theorem d_md_at_31 : decode prog_7_method_29_code 31 = .ok (.iaload, 1) := by decide +kernel
theorem d_md_at_32 : decode prog_7_method_29_code 32 = .ok (.iconst 3, 1) := by decide +kernel
theorem d_md_at_33 : decode prog_7_method_29_code 33 = .ok (.iload_n 2, 1) := by decide +kernel
theorem d_md_at_34 : decode prog_7_method_29_code 34 = .ok (.imul, 1) := by decide +kernel
theorem d_md_at_35 : decode prog_7_method_29_code 35 = .ok (.ishr, 1) := by decide +kernel
theorem d_md_at_36 : decode prog_7_method_29_code 36 = .ok (.bipush 7, 2) := by decide +kernel
theorem d_md_at_38 : decode prog_7_method_29_code 38 = .ok (.iand, 1) := by decide +kernel
theorem d_md_at_39 : decode prog_7_method_29_code 39 = .ok (.goto 4, 3) := by decide +kernel
theorem d_md_at_42 : decode prog_7_method_29_code 42 = .ok (.iconst (-1), 1) := by decide +kernel
theorem d_md_at_43 : decode prog_7_method_29_code 43 = .ok (.ireturn, 1) := by decide +kernel
theorem d_md_begun_0 : decode prog_7_method_30_code 0 = .ok (.iload_n 1, 1) := by decide +kernel
theorem d_md_begun_1 : decode prog_7_method_30_code 1 = .ok (.ifCond .lt 20, 3) := by decide +kernel
theorem d_md_begun_4 : decode prog_7_method_30_code 4 = .ok (.iload_n 1, 1) := by decide +kernel
end
section
theorem d_md_begun_5 : decode prog_7_method_30_code 5 = .ok (.aload_n 0, 1) := by decide +kernel
theorem d_md_begun_6 : decode prog_7_method_30_code 6 = .ok (.getfield 163, 3) := by decide +kernel
theorem d_md_begun_9 : decode prog_7_method_30_code 9 = .ok (.if_icmp .ge 12, 3) := by decide +kernel
theorem d_md_begun_12 : decode prog_7_method_30_code 12 = .ok (.aload_n 0, 1) := by decide +kernel
theorem d_md_begun_13 : decode prog_7_method_30_code 13 = .ok (.getfield 63, 3) := by decide +kernel
theorem d_md_begun_16 : decode prog_7_method_30_code 16 = .ok (.iload_n 1, 1) := by decide +kernel
theorem d_md_begun_17 : decode prog_7_method_30_code 17 = .ok (.iaload, 1) := by decide +kernel
theorem d_md_begun_18 : decode prog_7_method_30_code 18 = .ok (.goto 4, 3) := by decide +kernel
theorem d_md_begun_21 : decode prog_7_method_30_code 21 = .ok (.iconst (-1), 1) := by decide +kernel
theorem d_md_begun_22 : decode prog_7_method_30_code 22 = .ok (.ireturn, 1) := by decide +kernel
theorem d_md_back_0 : decode prog_7_method_31_code 0 = .ok (.iload_n 1, 1) := by decide +kernel
theorem d_md_back_1 : decode prog_7_method_31_code 1 = .ok (.ifCond .lt 20, 3) := by decide +kernel
theorem d_md_back_4 : decode prog_7_method_31_code 4 = .ok (.iload_n 1, 1) := by decide +kernel
theorem d_md_back_5 : decode prog_7_method_31_code 5 = .ok (.aload_n 0, 1) := by decide +kernel
theorem d_md_back_6 : decode prog_7_method_31_code 6 = .ok (.getfield 166, 3) := by decide +kernel
theorem d_md_back_9 : decode prog_7_method_31_code 9 = .ok (.if_icmp .ge 12, 3) := by decide +kernel
theorem d_md_back_12 : decode prog_7_method_31_code 12 = .ok (.aload_n 0, 1) := by decide +kernel
theorem d_md_back_13 : decode prog_7_method_31_code 13 = .ok (.getfield 72, 3) := by decide +kernel
theorem d_md_back_16 : decode prog_7_method_31_code 16 = .ok (.iload_n 1, 1) := by decide +kernel
theorem d_md_back_17 : decode prog_7_method_31_code 17 = .ok (.iaload, 1) := by decide +kernel
theorem d_md_back_18 : decode prog_7_method_31_code 18 = .ok (.goto 4, 3) := by decide +kernel
theorem d_md_back_21 : decode prog_7_method_31_code 21 = .ok (.iconst (-1), 1) := by decide +kernel
theorem d_md_back_22 : decode prog_7_method_31_code 22 = .ok (.ireturn, 1) := by decide +kernel
theorem d_md_saved_0 : decode prog_7_method_32_code 0 = .ok (.iload_n 1, 1) := by decide +kernel
theorem d_md_saved_1 : decode prog_7_method_32_code 1 = .ok (.ifCond .lt 20, 3) := by decide +kernel
theorem d_md_saved_4 : decode prog_7_method_32_code 4 = .ok (.iload_n 1, 1) := by decide +kernel
theorem d_md_saved_5 : decode prog_7_method_32_code 5 = .ok (.aload_n 0, 1) := by decide +kernel
theorem d_md_saved_6 : decode prog_7_method_32_code 6 = .ok (.getfield 166, 3) := by decide +kernel
theorem d_md_saved_9 : decode prog_7_method_32_code 9 = .ok (.if_icmp .ge 12, 3) := by decide +kernel
theorem d_md_saved_12 : decode prog_7_method_32_code 12 = .ok (.aload_n 0, 1) := by decide +kernel
theorem d_md_saved_13 : decode prog_7_method_32_code 13 = .ok (.getfield 75, 3) := by decide +kernel
theorem d_md_saved_16 : decode prog_7_method_32_code 16 = .ok (.iload_n 1, 1) := by decide +kernel
theorem d_md_saved_17 : decode prog_7_method_32_code 17 = .ok (.laload, 1) := by decide +kernel
theorem d_md_saved_18 : decode prog_7_method_32_code 18 = .ok (.goto 6, 3) := by decide +kernel
theorem d_md_saved_21 : decode prog_7_method_32_code 21 = .ok (.ldc2_w 139, 3) := by decide +kernel
theorem d_md_saved_24 : decode prog_7_method_32_code 24 = .ok (.lreturn, 1) := by decide +kernel
theorem d_fd_init_0 : decode prog_2_method_1_code 0 = .ok (.aload_n 0, 1) := by decide +kernel
theorem d_fd_init_1 : decode prog_2_method_1_code 1 = .ok (.invokespecial 3, 3) := by decide +kernel
theorem d_fd_init_4 : decode prog_2_method_1_code 4 = .ok (.aload_n 0, 1) := by decide +kernel
theorem d_fd_init_5 : decode prog_2_method_1_code 5 = .ok (.ldc2_w 9, 3) := by decide +kernel
theorem d_fd_init_8 : decode prog_2_method_1_code 8 = .ok (.putfield 11, 3) := by decide +kernel
theorem d_fd_init_11 : decode prog_2_method_1_code 11 = .ok (.aload_n 0, 1) := by decide +kernel
theorem d_fd_init_12 : decode prog_2_method_1_code 12 = .ok (.bipush 7, 2) := by decide +kernel
theorem d_fd_init_14 : decode prog_2_method_1_code 14 = .ok (.newarray .int, 2) := by decide +kernel
theorem d_fd_init_16 : decode prog_2_method_1_code 16 = .ok (.putfield 17, 3) := by decide +kernel
theorem d_fd_init_19 : decode prog_2_method_1_code 19 = .ok (.aload_n 0, 1) := by decide +kernel
theorem d_fd_init_20 : decode prog_2_method_1_code 20 = .ok (.bipush 7, 2) := by decide +kernel
theorem d_fd_init_22 : decode prog_2_method_1_code 22 = .ok (.newarray .int, 2) := by decide +kernel
theorem d_fd_init_24 : decode prog_2_method_1_code 24 = .ok (.putfield 21, 3) := by decide +kernel
theorem d_fd_init_27 : decode prog_2_method_1_code 27 = .ok (.aload_n 0, 1) := by decide +kernel
theorem d_fd_init_28 : decode prog_2_method_1_code 28 = .ok (.bipush 21, 2) := by decide +kernel
theorem d_fd_init_30 : decode prog_2_method_1_code 30 = .ok (.newarray .int, 2) := by decide +kernel
theorem d_fd_init_32 : decode prog_2_method_1_code 32 = .ok (.putfield 24, 3) := by decide +kernel
theorem d_fd_init_35 : decode prog_2_method_1_code 35 = .ok (.aload_n 0, 1) := by decide +kernel
theorem d_fd_init_36 : decode prog_2_method_1_code 36 = .ok (.iconst 3, 1) := by decide +kernel
theorem d_fd_init_37 : decode prog_2_method_1_code 37 = .ok (.newarray .int, 2) := by decide +kernel
theorem d_fd_init_39 : decode prog_2_method_1_code 39 = .ok (.putfield 27, 3) := by decide +kernel
theorem d_fd_init_42 : decode prog_2_method_1_code 42 = .ok (.aload_n 0, 1) := by decide +kernel
theorem d_fd_init_43 : decode prog_2_method_1_code 43 = .ok (.iconst 3, 1) := by decide +kernel
theorem d_fd_init_44 : decode prog_2_method_1_code 44 = .ok (.newarray .int, 2) := by decide +kernel
theorem d_fd_init_46 : decode prog_2_method_1_code 46 = .ok (.putfield 30, 3) := by decide +kernel
theorem d_fd_init_49 : decode prog_2_method_1_code 49 = .ok (.aload_n 0, 1) := by decide +kernel
theorem d_fd_init_50 : decode prog_2_method_1_code 50 = .ok (.iconst 3, 1) := by decide +kernel
theorem d_fd_init_51 : decode prog_2_method_1_code 51 = .ok (.newarray .long, 2) := by decide +kernel
theorem d_fd_init_53 : decode prog_2_method_1_code 53 = .ok (.putfield 33, 3) := by decide +kernel
theorem d_fd_init_56 : decode prog_2_method_1_code 56 = .ok (.return_, 1) := by decide +kernel
theorem d_fd_hasStop_0 : decode prog_2_method_2_code 0 = .ok (.iload_n 1, 1) := by decide +kernel
theorem d_fd_hasStop_1 : decode prog_2_method_2_code 1 = .ok (.ifCond .lt 15, 3) := by decide +kernel
theorem d_fd_hasStop_4 : decode prog_2_method_2_code 4 = .ok (.iload_n 1, 1) := by decide +kernel
theorem d_fd_hasStop_5 : decode prog_2_method_2_code 5 = .ok (.aload_n 0, 1) := by decide +kernel
theorem d_fd_hasStop_6 : decode prog_2_method_2_code 6 = .ok (.getfield 37, 3) := by decide +kernel
theorem d_fd_hasStop_9 : decode prog_2_method_2_code 9 = .ok (.if_icmp .ge 7, 3) := by decide +kernel
theorem d_fd_hasStop_12 : decode prog_2_method_2_code 12 = .ok (.iconst 1, 1) := by decide +kernel
theorem d_fd_hasStop_13 : decode prog_2_method_2_code 13 = .ok (.goto 4, 3) := by decide +kernel
theorem d_fd_hasStop_16 : decode prog_2_method_2_code 16 = .ok (.iconst 0, 1) := by decide +kernel
theorem d_fd_hasStop_17 : decode prog_2_method_2_code 17 = .ok (.ireturn, 1) := by decide +kernel
theorem d_fd_hasVehicle_0 : decode prog_2_method_3_code 0 = .ok (.iload_n 1, 1) := by decide +kernel
theorem d_fd_hasVehicle_1 : decode prog_2_method_3_code 1 = .ok (.ifCond .lt 15, 3) := by decide +kernel
theorem d_fd_hasVehicle_4 : decode prog_2_method_3_code 4 = .ok (.iload_n 1, 1) := by decide +kernel
theorem d_fd_hasVehicle_5 : decode prog_2_method_3_code 5 = .ok (.aload_n 0, 1) := by decide +kernel
theorem d_fd_hasVehicle_6 : decode prog_2_method_3_code 6 = .ok (.getfield 41, 3) := by decide +kernel
theorem d_fd_hasVehicle_9 : decode prog_2_method_3_code 9 = .ok (.if_icmp .ge 7, 3) := by decide +kernel
theorem d_fd_hasVehicle_12 : decode prog_2_method_3_code 12 = .ok (.iconst 1, 1) := by decide +kernel
theorem d_fd_hasVehicle_13 : decode prog_2_method_3_code 13 = .ok (.goto 4, 3) := by decide +kernel
theorem d_fd_hasVehicle_16 : decode prog_2_method_3_code 16 = .ok (.iconst 0, 1) := by decide +kernel
theorem d_fd_hasVehicle_17 : decode prog_2_method_3_code 17 = .ok (.ireturn, 1) := by decide +kernel
theorem d_fd_take_0 : decode prog_2_method_4_code 0 = .ok (.aload_n 0, 1) := by decide +kernel
theorem d_fd_take_1 : decode prog_2_method_4_code 1 = .ok (.aload_n 1, 1) := by decide +kernel
theorem d_fd_take_2 : decode prog_2_method_4_code 2 = .ok (.getfield 44, 3) := by decide +kernel
theorem d_fd_take_5 : decode prog_2_method_4_code 5 = .ok (.putfield 37, 3) := by decide +kernel
theorem d_fd_take_8 : decode prog_2_method_4_code 8 = .ok (.aload_n 0, 1) := by decide +kernel
theorem d_fd_take_9 : decode prog_2_method_4_code 9 = .ok (.aload_n 1, 1) := by decide +kernel
theorem d_fd_take_10 : decode prog_2_method_4_code 10 = .ok (.getfield 49, 3) := by decide +kernel
theorem d_fd_take_13 : decode prog_2_method_4_code 13 = .ok (.putfield 41, 3) := by decide +kernel
theorem d_fd_take_16 : decode prog_2_method_4_code 16 = .ok (.aload_n 0, 1) := by decide +kernel
theorem d_fd_take_17 : decode prog_2_method_4_code 17 = .ok (.lload_n 2, 1) := by decide +kernel
theorem d_fd_take_18 : decode prog_2_method_4_code 18 = .ok (.invokestatic 51, 3) := by decide +kernel
theorem d_fd_take_21 : decode prog_2_method_4_code 21 = .ok (.putfield 11, 3) := by decide +kernel
theorem d_fd_take_24 : decode prog_2_method_4_code 24 = .ok (.iconst 0, 1) := by decide +kernel
theorem d_fd_take_25 : decode prog_2_method_4_code 25 = .ok (.istore 4, 2) := by decide +kernel
theorem d_fd_take_27 : decode prog_2_method_4_code 27 = .ok (.iload 4, 2) := by decide +kernel
theorem d_fd_take_29 : decode prog_2_method_4_code 29 = .ok (.aload_n 0, 1) := by decide +kernel
theorem d_fd_take_30 : decode prog_2_method_4_code 30 = .ok (.getfield 37, 3) := by decide +kernel
theorem d_fd_take_33 : decode prog_2_method_4_code 33 = .ok (.if_icmp .ge 22, 3) := by decide +kernel
theorem d_fd_take_36 : decode prog_2_method_4_code 36 = .ok (.aload_n 0, 1) := by decide +kernel
theorem d_fd_take_37 : decode prog_2_method_4_code 37 = .ok (.getfield 17, 3) := by decide +kernel
theorem d_fd_take_40 : decode prog_2_method_4_code 40 = .ok (.iload 4, 2) := by decide +kernel
theorem d_fd_take_42 : decode prog_2_method_4_code 42 = .ok (.lload_n 2, 1) := by decide +kernel
theorem d_fd_take_43 : decode prog_2_method_4_code 43 = .ok (.iload 4, 2) := by decide +kernel
theorem d_fd_take_45 : decode prog_2_method_4_code 45 = .ok (.invokestatic 55, 3) := by decide +kernel
theorem d_fd_take_48 : decode prog_2_method_4_code 48 = .ok (.iastore, 1) := by decide +kernel
theorem d_fd_take_49 : decode prog_2_method_4_code 49 = .ok (.iinc 4 1, 3) := by decide +kernel
theorem d_fd_take_52 : decode prog_2_method_4_code 52 = .ok (.goto (-25), 3) := by decide +kernel
theorem d_fd_take_55 : decode prog_2_method_4_code 55 = .ok (.aload_n 0, 1) := by decide +kernel
theorem d_fd_take_56 : decode prog_2_method_4_code 56 = .ok (.getfield 21, 3) := by decide +kernel
theorem d_fd_take_59 : decode prog_2_method_4_code 59 = .ok (.iconst (-1), 1) := by decide +kernel
theorem d_fd_take_60 : decode prog_2_method_4_code 60 = .ok (.invokestatic 59, 3) := by decide +kernel
theorem d_fd_take_63 : decode prog_2_method_4_code 63 = .ok (.aload_n 0, 1) := by decide +kernel
theorem d_fd_take_64 : decode prog_2_method_4_code 64 = .ok (.getfield 27, 3) := by decide +kernel
theorem d_fd_take_67 : decode prog_2_method_4_code 67 = .ok (.iconst 0, 1) := by decide +kernel
theorem d_fd_take_68 : decode prog_2_method_4_code 68 = .ok (.invokestatic 59, 3) := by decide +kernel
theorem d_fd_take_71 : decode prog_2_method_4_code 71 = .ok (.aload_n 0, 1) := by decide +kernel
theorem d_fd_take_72 : decode prog_2_method_4_code 72 = .ok (.getfield 30, 3) := by decide +kernel
theorem d_fd_take_75 : decode prog_2_method_4_code 75 = .ok (.iconst (-1), 1) := by decide +kernel
theorem d_fd_take_76 : decode prog_2_method_4_code 76 = .ok (.invokestatic 59, 3) := by decide +kernel
theorem d_fd_take_79 : decode prog_2_method_4_code 79 = .ok (.return_, 1) := by decide +kernel
theorem d_fd_note_0 : decode prog_2_method_5_code 0 = .ok (.aload_n 0, 1) := by decide +kernel
theorem d_fd_note_1 : decode prog_2_method_5_code 1 = .ok (.getfield 27, 3) := by decide +kernel
theorem d_fd_note_4 : decode prog_2_method_5_code 4 = .ok (.iload_n 1, 1) := by decide +kernel
theorem d_fd_note_5 : decode prog_2_method_5_code 5 = .ok (.iaload, 1) := by decide +kernel
theorem d_fd_note_6 : decode prog_2_method_5_code 6 = .ok (.istore 4, 2) := by decide +kernel
theorem d_fd_note_8 : decode prog_2_method_5_code 8 = .ok (.iload 4, 2) := by decide +kernel
theorem d_fd_note_10 : decode prog_2_method_5_code 10 = .ok (.bipush 7, 2) := by decide +kernel
theorem d_fd_note_12 : decode prog_2_method_5_code 12 = .ok (.if_icmp .lt 4, 3) := by decide +kernel
theorem d_fd_note_15 : decode prog_2_method_5_code 15 = .ok (.return_, 1) := by decide +kernel
theorem d_fd_note_16 : decode prog_2_method_5_code 16 = .ok (.aload_n 0, 1) := by decide +kernel
theorem d_fd_note_17 : decode prog_2_method_5_code 17 = .ok (.getfield 24, 3) := by decide +kernel
theorem d_fd_note_20 : decode prog_2_method_5_code 20 = .ok (.iload_n 1, 1) := by decide +kernel
theorem d_fd_note_21 : decode prog_2_method_5_code 21 = .ok (.bipush 7, 2) := by decide +kernel
theorem d_fd_note_23 : decode prog_2_method_5_code 23 = .ok (.imul, 1) := by decide +kernel
theorem d_fd_note_24 : decode prog_2_method_5_code 24 = .ok (.iload 4, 2) := by decide +kernel
theorem d_fd_note_26 : decode prog_2_method_5_code 26 = .ok (.iadd, 1) := by decide +kernel
theorem d_fd_note_27 : decode prog_2_method_5_code 27 = .ok (.iload_n 2, 1) := by decide +kernel
theorem d_fd_note_28 : decode prog_2_method_5_code 28 = .ok (.iastore, 1) := by decide +kernel
theorem d_fd_note_29 : decode prog_2_method_5_code 29 = .ok (.aload_n 0, 1) := by decide +kernel
theorem d_fd_note_30 : decode prog_2_method_5_code 30 = .ok (.getfield 27, 3) := by decide +kernel
theorem d_fd_note_33 : decode prog_2_method_5_code 33 = .ok (.iload_n 1, 1) := by decide +kernel
theorem d_fd_note_34 : decode prog_2_method_5_code 34 = .ok (.iload 4, 2) := by decide +kernel
theorem d_fd_note_36 : decode prog_2_method_5_code 36 = .ok (.iconst 1, 1) := by decide +kernel
theorem d_fd_note_37 : decode prog_2_method_5_code 37 = .ok (.iadd, 1) := by decide +kernel
theorem d_fd_note_38 : decode prog_2_method_5_code 38 = .ok (.iastore, 1) := by decide +kernel
theorem d_fd_note_39 : decode prog_2_method_5_code 39 = .ok (.aload_n 0, 1) := by decide +kernel
theorem d_fd_note_40 : decode prog_2_method_5_code 40 = .ok (.getfield 21, 3) := by decide +kernel
theorem d_fd_note_43 : decode prog_2_method_5_code 43 = .ok (.iload_n 2, 1) := by decide +kernel
theorem d_fd_note_44 : decode prog_2_method_5_code 44 = .ok (.iload_n 3, 1) := by decide +kernel
theorem d_fd_note_45 : decode prog_2_method_5_code 45 = .ok (.iastore, 1) := by decide +kernel
theorem d_fd_note_46 : decode prog_2_method_5_code 46 = .ok (.return_, 1) := by decide +kernel
theorem d_pl_init_0 : decode prog_3_method_1_code 0 = .ok (.aload_n 0, 1) := by decide +kernel
theorem d_pl_init_1 : decode prog_3_method_1_code 1 = .ok (.invokespecial 3, 3) := by decide +kernel
theorem d_pl_init_4 : decode prog_3_method_1_code 4 = .ok (.aload_n 0, 1) := by decide +kernel
theorem d_pl_init_5 : decode prog_3_method_1_code 5 = .ok (.aload_n 1, 1) := by decide +kernel
theorem d_pl_init_6 : decode prog_3_method_1_code 6 = .ok (.putfield 9, 3) := by decide +kernel
theorem d_pl_init_9 : decode prog_3_method_1_code 9 = .ok (.aload_n 0, 1) := by decide +kernel
theorem d_pl_init_10 : decode prog_3_method_1_code 10 = .ok (.aload_n 2, 1) := by decide +kernel
theorem d_pl_init_11 : decode prog_3_method_1_code 11 = .ok (.putfield 15, 3) := by decide +kernel
theorem d_pl_init_14 : decode prog_3_method_1_code 14 = .ok (.aload_n 0, 1) := by decide +kernel
theorem d_pl_init_15 : decode prog_3_method_1_code 15 = .ok (.sipush 384, 3) := by decide +kernel
theorem d_pl_init_18 : decode prog_3_method_1_code 18 = .ok (.newarray .long, 2) := by decide +kernel
theorem d_pl_init_20 : decode prog_3_method_1_code 20 = .ok (.putfield 19, 3) := by decide +kernel
theorem d_pl_init_23 : decode prog_3_method_1_code 23 = .ok (.aload_n 0, 1) := by decide +kernel
theorem d_pl_init_24 : decode prog_3_method_1_code 24 = .ok (.sipush 128, 3) := by decide +kernel
theorem d_pl_init_27 : decode prog_3_method_1_code 27 = .ok (.newarray .long, 2) := by decide +kernel
theorem d_pl_init_29 : decode prog_3_method_1_code 29 = .ok (.putfield 23, 3) := by decide +kernel
theorem d_pl_init_32 : decode prog_3_method_1_code 32 = .ok (.aload_n 0, 1) := by decide +kernel
theorem d_pl_init_33 : decode prog_3_method_1_code 33 = .ok (.sipush 128, 3) := by decide +kernel
theorem d_pl_init_36 : decode prog_3_method_1_code 36 = .ok (.newarray .long, 2) := by decide +kernel
theorem d_pl_init_38 : decode prog_3_method_1_code 38 = .ok (.putfield 26, 3) := by decide +kernel
theorem d_pl_init_41 : decode prog_3_method_1_code 41 = .ok (.return_, 1) := by decide +kernel
theorem d_pl_findPrices_0 : decode prog_3_method_2_code 0 = .ok (.iconst 1, 1) := by decide +kernel
theorem d_pl_findPrices_1 : decode prog_3_method_2_code 1 = .ok (.istore_n 1, 1) := by decide +kernel
theorem d_pl_findPrices_2 : decode prog_3_method_2_code 2 = .ok (.iload_n 1, 1) := by decide +kernel
theorem d_pl_findPrices_3 : decode prog_3_method_2_code 3 = .ok (.iconst 1, 1) := by decide +kernel
theorem d_pl_findPrices_4 : decode prog_3_method_2_code 4 = .ok (.aload_n 0, 1) := by decide +kernel
theorem d_pl_findPrices_5 : decode prog_3_method_2_code 5 = .ok (.getfield 9, 3) := by decide +kernel
theorem d_pl_findPrices_8 : decode prog_3_method_2_code 8 = .ok (.getfield 29, 3) := by decide +kernel
theorem d_pl_findPrices_11 : decode prog_3_method_2_code 11 = .ok (.ishl, 1) := by decide +kernel
theorem d_pl_findPrices_12 : decode prog_3_method_2_code 12 = .ok (.if_icmp .ge 77, 3) := by decide +kernel
theorem d_pl_findPrices_15 : decode prog_3_method_2_code 15 = .ok (.aload_n 0, 1) := by decide +kernel
theorem d_pl_findPrices_16 : decode prog_3_method_2_code 16 = .ok (.iload_n 1, 1) := by decide +kernel
theorem d_pl_findPrices_17 : decode prog_3_method_2_code 17 = .ok (.invokevirtual 35, 3) := by decide +kernel
theorem d_pl_findPrices_20 : decode prog_3_method_2_code 20 = .ok (.lstore_n 2, 1) := by decide +kernel
theorem d_pl_findPrices_21 : decode prog_3_method_2_code 21 = .ok (.aload_n 0, 1) := by decide +kernel
theorem d_pl_findPrices_22 : decode prog_3_method_2_code 22 = .ok (.getfield 23, 3) := by decide +kernel
theorem d_pl_findPrices_25 : decode prog_3_method_2_code 25 = .ok (.iload_n 1, 1) := by decide +kernel
theorem d_pl_findPrices_26 : decode prog_3_method_2_code 26 = .ok (.aload_n 0, 1) := by decide +kernel
theorem d_pl_findPrices_27 : decode prog_3_method_2_code 27 = .ok (.iload_n 1, 1) := by decide +kernel
theorem d_pl_findPrices_28 : decode prog_3_method_2_code 28 = .ok (.invokevirtual 39, 3) := by decide +kernel
theorem d_pl_findPrices_31 : decode prog_3_method_2_code 31 = .ok (.bipush 14, 2) := by decide +kernel
theorem d_pl_findPrices_33 : decode prog_3_method_2_code 33 = .ok (.lshl, 1) := by decide +kernel
theorem d_pl_findPrices_34 : decode prog_3_method_2_code 34 = .ok (.ldc2_w 42, 3) := by decide +kernel
theorem d_pl_findPrices_37 : decode prog_3_method_2_code 37 = .ok (.lload_n 2, 1) := by decide +kernel
theorem d_pl_findPrices_38 : decode prog_3_method_2_code 38 = .ok (.lmul, 1) := by decide +kernel
theorem d_pl_findPrices_39 : decode prog_3_method_2_code 39 = .ok (.ladd, 1) := by decide +kernel
theorem d_pl_findPrices_40 : decode prog_3_method_2_code 40 = .ok (.lastore, 1) := by decide +kernel
theorem d_pl_findPrices_41 : decode prog_3_method_2_code 41 = .ok (.iconst 0, 1) := by decide +kernel
theorem d_pl_findPrices_42 : decode prog_3_method_2_code 42 = .ok (.istore 4, 2) := by decide +kernel
theorem d_pl_findPrices_44 : decode prog_3_method_2_code 44 = .ok (.iload 4, 2) := by decide +kernel
theorem d_pl_findPrices_46 : decode prog_3_method_2_code 46 = .ok (.aload_n 0, 1) := by decide +kernel
theorem d_pl_findPrices_47 : decode prog_3_method_2_code 47 = .ok (.getfield 9, 3) := by decide +kernel
theorem d_pl_findPrices_50 : decode prog_3_method_2_code 50 = .ok (.getfield 44, 3) := by decide +kernel
theorem d_pl_findPrices_53 : decode prog_3_method_2_code 53 = .ok (.if_icmp .ge 30, 3) := by decide +kernel
theorem d_pl_findPrices_56 : decode prog_3_method_2_code 56 = .ok (.aload_n 0, 1) := by decide +kernel
theorem d_pl_findPrices_57 : decode prog_3_method_2_code 57 = .ok (.getfield 19, 3) := by decide +kernel
theorem d_pl_findPrices_60 : decode prog_3_method_2_code 60 = .ok (.iload 4, 2) := by decide +kernel
theorem d_pl_findPrices_62 : decode prog_3_method_2_code 62 = .ok (.sipush 128, 3) := by decide +kernel
theorem d_pl_findPrices_65 : decode prog_3_method_2_code 65 = .ok (.imul, 1) := by decide +kernel
theorem d_pl_findPrices_66 : decode prog_3_method_2_code 66 = .ok (.iload_n 1, 1) := by decide +kernel
theorem d_pl_findPrices_67 : decode prog_3_method_2_code 67 = .ok (.iadd, 1) := by decide +kernel
theorem d_pl_findPrices_68 : decode prog_3_method_2_code 68 = .ok (.aload_n 0, 1) := by decide +kernel
theorem d_pl_findPrices_69 : decode prog_3_method_2_code 69 = .ok (.iload 4, 2) := by decide +kernel
theorem d_pl_findPrices_71 : decode prog_3_method_2_code 71 = .ok (.iload_n 1, 1) := by decide +kernel
theorem d_pl_findPrices_72 : decode prog_3_method_2_code 72 = .ok (.lload_n 2, 1) := by decide +kernel
theorem d_pl_findPrices_73 : decode prog_3_method_2_code 73 = .ok (.invokevirtual 47, 3) := by decide +kernel
theorem d_pl_findPrices_76 : decode prog_3_method_2_code 76 = .ok (.lastore, 1) := by decide +kernel
theorem d_pl_findPrices_77 : decode prog_3_method_2_code 77 = .ok (.iinc 4 1, 3) := by decide +kernel
theorem d_pl_findPrices_80 : decode prog_3_method_2_code 80 = .ok (.goto (-36), 3) := by decide +kernel
theorem d_pl_findPrices_83 : decode prog_3_method_2_code 83 = .ok (.iinc 1 1, 3) := by decide +kernel
theorem d_pl_findPrices_86 : decode prog_3_method_2_code 86 = .ok (.goto (-84), 3) := by decide +kernel
theorem d_pl_findPrices_89 : decode prog_3_method_2_code 89 = .ok (.return_, 1) := by decide +kernel
theorem d_pl_findPrice_0 : decode prog_3_method_3_code 0 = .ok (.aload_n 0, 1) := by decide +kernel
theorem d_pl_findPrice_1 : decode prog_3_method_3_code 1 = .ok (.getfield 15, 3) := by decide +kernel
theorem d_pl_findPrice_4 : decode prog_3_method_3_code 4 = .ok (.iload_n 1, 1) := by decide +kernel
theorem d_pl_findPrice_5 : decode prog_3_method_3_code 5 = .ok (.iload_n 2, 1) := by decide +kernel
theorem d_pl_findPrice_6 : decode prog_3_method_3_code 6 = .ok (.invokevirtual 51, 3) := by decide +kernel
theorem d_pl_findPrice_9 : decode prog_3_method_3_code 9 = .ok (.istore 5, 2) := by decide +kernel
theorem d_pl_findPrice_11 : decode prog_3_method_3_code 11 = .ok (.iload 5, 2) := by decide +kernel
theorem d_pl_findPrice_13 : decode prog_3_method_3_code 13 = .ok (.ldc 57, 2) := by decide +kernel
theorem d_pl_findPrice_15 : decode prog_3_method_3_code 15 = .ok (.if_icmp .ne 7, 3) := by decide +kernel
theorem d_pl_findPrice_18 : decode prog_3_method_3_code 18 = .ok (.ldc2_w 58, 3) := by decide +kernel
theorem d_pl_findPrice_21 : decode prog_3_method_3_code 21 = .ok (.lreturn, 1) := by decide +kernel
theorem d_pl_findPrice_22 : decode prog_3_method_3_code 22 = .ok (.iload 5, 2) := by decide +kernel
theorem d_pl_findPrice_24 : decode prog_3_method_3_code 24 = .ok (.aload_n 0, 1) := by decide +kernel
theorem d_pl_findPrice_25 : decode prog_3_method_3_code 25 = .ok (.getfield 9, 3) := by decide +kernel
theorem d_pl_findPrice_28 : decode prog_3_method_3_code 28 = .ok (.getfield 60, 3) := by decide +kernel
theorem d_pl_findPrice_31 : decode prog_3_method_3_code 31 = .ok (.iload_n 1, 1) := by decide +kernel
theorem d_pl_findPrice_32 : decode prog_3_method_3_code 32 = .ok (.iaload, 1) := by decide +kernel
theorem d_pl_findPrice_33 : decode prog_3_method_3_code 33 = .ok (.isub, 1) := by decide +kernel
theorem d_pl_findPrice_34 : decode prog_3_method_3_code 34 = .ok (.i2l, 1) := by decide +kernel
theorem d_pl_findPrice_35 : decode prog_3_method_3_code 35 = .ok (.lstore 6, 2) := by decide +kernel
theorem d_pl_findPrice_37 : decode prog_3_method_3_code 37 = .ok (.aload_n 0, 1) := by decide +kernel
theorem d_pl_findPrice_38 : decode prog_3_method_3_code 38 = .ok (.getfield 9, 3) := by decide +kernel
theorem d_pl_findPrice_41 : decode prog_3_method_3_code 41 = .ok (.getfield 64, 3) := by decide +kernel
theorem d_pl_findPrice_44 : decode prog_3_method_3_code 44 = .ok (.iload_n 1, 1) := by decide +kernel
theorem d_pl_findPrice_45 : decode prog_3_method_3_code 45 = .ok (.iaload, 1) := by decide +kernel
theorem d_pl_findPrice_46 : decode prog_3_method_3_code 46 = .ok (.i2l, 1) := by decide +kernel
theorem d_pl_findPrice_47 : decode prog_3_method_3_code 47 = .ok (.lload 6, 2) := by decide +kernel
theorem d_pl_findPrice_49 : decode prog_3_method_3_code 49 = .ok (.lmul, 1) := by decide +kernel
theorem d_pl_findPrice_50 : decode prog_3_method_3_code 50 = .ok (.bipush 14, 2) := by decide +kernel
theorem d_pl_findPrice_52 : decode prog_3_method_3_code 52 = .ok (.lshl, 1) := by decide +kernel
theorem d_pl_findPrice_53 : decode prog_3_method_3_code 53 = .ok (.iload_n 1, 1) := by decide +kernel
theorem d_pl_findPrice_54 : decode prog_3_method_3_code 54 = .ok (.i2l, 1) := by decide +kernel
theorem d_pl_findPrice_55 : decode prog_3_method_3_code 55 = .ok (.lload_n 3, 1) := by decide +kernel
theorem d_pl_findPrice_56 : decode prog_3_method_3_code 56 = .ok (.lmul, 1) := by decide +kernel
theorem d_pl_findPrice_57 : decode prog_3_method_3_code 57 = .ok (.ladd, 1) := by decide +kernel
theorem d_pl_findPrice_58 : decode prog_3_method_3_code 58 = .ok (.lreturn, 1) := by decide +kernel
theorem d_pl_penaltiesOf_0 : decode prog_3_method_4_code 0 = .ok (.lconst 0, 1) := by decide +kernel
theorem d_pl_penaltiesOf_1 : decode prog_3_method_4_code 1 = .ok (.lstore_n 2, 1) := by decide +kernel
theorem d_pl_penaltiesOf_2 : decode prog_3_method_4_code 2 = .ok (.iconst 0, 1) := by decide +kernel
theorem d_pl_penaltiesOf_3 : decode prog_3_method_4_code 3 = .ok (.istore 4, 2) := by decide +kernel
theorem d_pl_penaltiesOf_5 : decode prog_3_method_4_code 5 = .ok (.iload 4, 2) := by decide +kernel
theorem d_pl_penaltiesOf_7 : decode prog_3_method_4_code 7 = .ok (.aload_n 0, 1) := by decide +kernel
theorem d_pl_penaltiesOf_8 : decode prog_3_method_4_code 8 = .ok (.getfield 9, 3) := by decide +kernel
theorem d_pl_penaltiesOf_11 : decode prog_3_method_4_code 11 = .ok (.getfield 29, 3) := by decide +kernel
theorem d_pl_penaltiesOf_14 : decode prog_3_method_4_code 14 = .ok (.if_icmp .ge 31, 3) := by decide +kernel
theorem d_pl_penaltiesOf_17 : decode prog_3_method_4_code 17 = .ok (.iload_n 1, 1) := by decide +kernel
theorem d_pl_penaltiesOf_18 : decode prog_3_method_4_code 18 = .ok (.iload 4, 2) := by decide +kernel
theorem d_pl_penaltiesOf_20 : decode prog_3_method_4_code 20 = .ok (.invokestatic 67, 3) := by decide +kernel
theorem d_pl_penaltiesOf_23 : decode prog_3_method_4_code 23 = .ok (.ifCond .eq 16, 3) := by decide +kernel
theorem d_pl_penaltiesOf_26 : decode prog_3_method_4_code 26 = .ok (.lload_n 2, 1) := by decide +kernel
theorem d_pl_penaltiesOf_27 : decode prog_3_method_4_code 27 = .ok (.aload_n 0, 1) := by decide +kernel
theorem d_pl_penaltiesOf_28 : decode prog_3_method_4_code 28 = .ok (.getfield 9, 3) := by decide +kernel
theorem d_pl_penaltiesOf_31 : decode prog_3_method_4_code 31 = .ok (.getfield 71, 3) := by decide +kernel
theorem d_pl_penaltiesOf_34 : decode prog_3_method_4_code 34 = .ok (.iload 4, 2) := by decide +kernel
theorem d_pl_penaltiesOf_36 : decode prog_3_method_4_code 36 = .ok (.laload, 1) := by decide +kernel
theorem d_pl_penaltiesOf_37 : decode prog_3_method_4_code 37 = .ok (.ladd, 1) := by decide +kernel
theorem d_pl_penaltiesOf_38 : decode prog_3_method_4_code 38 = .ok (.lstore_n 2, 1) := by decide +kernel
theorem d_pl_penaltiesOf_39 : decode prog_3_method_4_code 39 = .ok (.iinc 4 1, 3) := by decide +kernel
theorem d_pl_penaltiesOf_42 : decode prog_3_method_4_code 42 = .ok (.goto (-37), 3) := by decide +kernel
theorem d_pl_penaltiesOf_45 : decode prog_3_method_4_code 45 = .ok (.lload_n 2, 1) := by decide +kernel
theorem d_pl_penaltiesOf_46 : decode prog_3_method_4_code 46 = .ok (.lreturn, 1) := by decide +kernel
theorem d_pl_codeOfOnes_0 : decode prog_3_method_5_code 0 = .ok (.lconst 0, 1) := by decide +kernel
theorem d_pl_codeOfOnes_1 : decode prog_3_method_5_code 1 = .ok (.lstore_n 2, 1) := by decide +kernel
theorem d_pl_codeOfOnes_2 : decode prog_3_method_5_code 2 = .ok (.iconst 0, 1) := by decide +kernel
theorem d_pl_codeOfOnes_3 : decode prog_3_method_5_code 3 = .ok (.istore 4, 2) := by decide +kernel
theorem d_pl_codeOfOnes_5 : decode prog_3_method_5_code 5 = .ok (.iload 4, 2) := by decide +kernel
theorem d_pl_codeOfOnes_7 : decode prog_3_method_5_code 7 = .ok (.aload_n 0, 1) := by decide +kernel
theorem d_pl_codeOfOnes_8 : decode prog_3_method_5_code 8 = .ok (.getfield 9, 3) := by decide +kernel
theorem d_pl_codeOfOnes_11 : decode prog_3_method_5_code 11 = .ok (.getfield 29, 3) := by decide +kernel
theorem d_pl_codeOfOnes_14 : decode prog_3_method_5_code 14 = .ok (.if_icmp .ge 28, 3) := by decide +kernel
theorem d_pl_codeOfOnes_17 : decode prog_3_method_5_code 17 = .ok (.iload_n 1, 1) := by decide +kernel
theorem d_pl_codeOfOnes_18 : decode prog_3_method_5_code 18 = .ok (.iload 4, 2) := by decide +kernel
theorem d_pl_codeOfOnes_20 : decode prog_3_method_5_code 20 = .ok (.invokestatic 67, 3) := by decide +kernel
theorem d_pl_codeOfOnes_23 : decode prog_3_method_5_code 23 = .ok (.ifCond .eq 13, 3) := by decide +kernel
theorem d_pl_codeOfOnes_26 : decode prog_3_method_5_code 26 = .ok (.lload_n 2, 1) := by decide +kernel
theorem d_pl_codeOfOnes_27 : decode prog_3_method_5_code 27 = .ok (.lconst 1, 1) := by decide +kernel
theorem d_pl_codeOfOnes_28 : decode prog_3_method_5_code 28 = .ok (.iload 4, 2) := by decide +kernel
theorem d_pl_codeOfOnes_30 : decode prog_3_method_5_code 30 = .ok (.invokestatic 74, 3) := by decide +kernel
theorem d_pl_codeOfOnes_33 : decode prog_3_method_5_code 33 = .ok (.lshl, 1) := by decide +kernel
theorem d_pl_codeOfOnes_34 : decode prog_3_method_5_code 34 = .ok (.ladd, 1) := by decide +kernel
theorem d_pl_codeOfOnes_35 : decode prog_3_method_5_code 35 = .ok (.lstore_n 2, 1) := by decide +kernel
theorem d_pl_codeOfOnes_36 : decode prog_3_method_5_code 36 = .ok (.iinc 4 1, 3) := by decide +kernel
theorem d_pl_codeOfOnes_39 : decode prog_3_method_5_code 39 = .ok (.goto (-34), 3) := by decide +kernel
theorem d_pl_codeOfOnes_42 : decode prog_3_method_5_code 42 = .ok (.lload_n 2, 1) := by decide +kernel
theorem d_pl_codeOfOnes_43 : decode prog_3_method_5_code 43 = .ok (.lreturn, 1) := by decide +kernel
theorem d_pl_cheapest_0 : decode prog_3_method_6_code 0 = .ok (.iconst 1, 1) := by decide +kernel
theorem d_pl_cheapest_1 : decode prog_3_method_6_code 1 = .ok (.aload_n 0, 1) := by decide +kernel
theorem d_pl_cheapest_2 : decode prog_3_method_6_code 2 = .ok (.getfield 9, 3) := by decide +kernel
theorem d_pl_cheapest_5 : decode prog_3_method_6_code 5 = .ok (.getfield 29, 3) := by decide +kernel
theorem d_pl_cheapest_8 : decode prog_3_method_6_code 8 = .ok (.ishl, 1) := by decide +kernel
theorem d_pl_cheapest_9 : decode prog_3_method_6_code 9 = .ok (.iconst 1, 1) := by decide +kernel
theorem d_pl_cheapest_10 : decode prog_3_method_6_code 10 = .ok (.isub, 1) := by decide +kernel
theorem d_pl_cheapest_11 : decode prog_3_method_6_code 11 = .ok (.istore_n 2, 1) := by decide +kernel
theorem d_pl_cheapest_12 : decode prog_3_method_6_code 12 = .ok (.aload_n 0, 1) := by decide +kernel
theorem d_pl_cheapest_13 : decode prog_3_method_6_code 13 = .ok (.getfield 23, 3) := by decide +kernel
theorem d_pl_cheapest_16 : decode prog_3_method_6_code 16 = .ok (.iconst 0, 1) := by decide +kernel
theorem d_pl_cheapest_17 : decode prog_3_method_6_code 17 = .ok (.aload_n 0, 1) := by decide +kernel
theorem d_pl_cheapest_18 : decode prog_3_method_6_code 18 = .ok (.getfield 26, 3) := by decide +kernel
theorem d_pl_cheapest_21 : decode prog_3_method_6_code 21 = .ok (.iconst 0, 1) := by decide +kernel
theorem d_pl_cheapest_22 : decode prog_3_method_6_code 22 = .ok (.sipush 128, 3) := by decide +kernel
theorem d_pl_cheapest_25 : decode prog_3_method_6_code 25 = .ok (.invokestatic 78, 3) := by decide +kernel
theorem d_pl_cheapest_28 : decode prog_3_method_6_code 28 = .ok (.iconst 0, 1) := by decide +kernel
theorem d_pl_cheapest_29 : decode prog_3_method_6_code 29 = .ok (.istore_n 3, 1) := by decide +kernel
theorem d_pl_cheapest_30 : decode prog_3_method_6_code 30 = .ok (.iload_n 3, 1) := by decide +kernel
theorem d_pl_cheapest_31 : decode prog_3_method_6_code 31 = .ok (.aload_n 0, 1) := by decide +kernel
theorem d_pl_cheapest_32 : decode prog_3_method_6_code 32 = .ok (.getfield 9, 3) := by decide +kernel
theorem d_pl_cheapest_35 : decode prog_3_method_6_code 35 = .ok (.getfield 44, 3) := by decide +kernel
theorem d_pl_cheapest_38 : decode prog_3_method_6_code 38 = .ok (.if_icmp .ge 20, 3) := by decide +kernel
theorem d_pl_cheapest_41 : decode prog_3_method_6_code 41 = .ok (.iload_n 3, 1) := by decide +kernel
theorem d_pl_cheapest_42 : decode prog_3_method_6_code 42 = .ok (.iload_n 1, 1) := by decide +kernel
theorem d_pl_cheapest_43 : decode prog_3_method_6_code 43 = .ok (.if_icmp .eq 9, 3) := by decide +kernel
theorem d_pl_cheapest_46 : decode prog_3_method_6_code 46 = .ok (.aload_n 0, 1) := by decide +kernel
theorem d_pl_cheapest_47 : decode prog_3_method_6_code 47 = .ok (.iload_n 3, 1) := by decide +kernel
theorem d_pl_cheapest_48 : decode prog_3_method_6_code 48 = .ok (.iload_n 2, 1) := by decide +kernel
theorem d_pl_cheapest_49 : decode prog_3_method_6_code 49 = .ok (.invokevirtual 84, 3) := by decide +kernel
theorem d_pl_cheapest_52 : decode prog_3_method_6_code 52 = .ok (.iinc 3 1, 3) := by decide +kernel
theorem d_pl_cheapest_55 : decode prog_3_method_6_code 55 = .ok (.goto (-25), 3) := by decide +kernel
theorem d_pl_cheapest_58 : decode prog_3_method_6_code 58 = .ok (.aload_n 0, 1) := by decide +kernel
theorem d_pl_cheapest_59 : decode prog_3_method_6_code 59 = .ok (.getfield 26, 3) := by decide +kernel
theorem d_pl_cheapest_62 : decode prog_3_method_6_code 62 = .ok (.iload_n 2, 1) := by decide +kernel
theorem d_pl_cheapest_63 : decode prog_3_method_6_code 63 = .ok (.laload, 1) := by decide +kernel
theorem d_pl_cheapest_64 : decode prog_3_method_6_code 64 = .ok (.lreturn, 1) := by decide +kernel
theorem d_pl_addRounds_0 : decode prog_3_method_7_code 0 = .ok (.iload_n 2, 1) := by decide +kernel
theorem d_pl_addRounds_1 : decode prog_3_method_7_code 1 = .ok (.istore_n 3, 1) := by decide +kernel
theorem d_pl_addRounds_2 : decode prog_3_method_7_code 2 = .ok (.iload_n 3, 1) := by decide +kernel
theorem d_pl_addRounds_3 : decode prog_3_method_7_code 3 = .ok (.ifCond .le 21, 3) := by decide +kernel
theorem d_pl_addRounds_6 : decode prog_3_method_7_code 6 = .ok (.aload_n 0, 1) := by decide +kernel
theorem d_pl_addRounds_7 : decode prog_3_method_7_code 7 = .ok (.getfield 26, 3) := by decide +kernel
theorem d_pl_addRounds_10 : decode prog_3_method_7_code 10 = .ok (.iload_n 3, 1) := by decide +kernel
theorem d_pl_addRounds_11 : decode prog_3_method_7_code 11 = .ok (.aload_n 0, 1) := by decide +kernel
theorem d_pl_addRounds_12 : decode prog_3_method_7_code 12 = .ok (.iload_n 1, 1) := by decide +kernel
theorem d_pl_addRounds_13 : decode prog_3_method_7_code 13 = .ok (.iload_n 3, 1) := by decide +kernel
theorem d_pl_addRounds_14 : decode prog_3_method_7_code 14 = .ok (.invokevirtual 88, 3) := by decide +kernel
theorem d_pl_addRounds_17 : decode prog_3_method_7_code 17 = .ok (.lastore, 1) := by decide +kernel
theorem d_pl_addRounds_18 : decode prog_3_method_7_code 18 = .ok (.iinc 3 (-1), 3) := by decide +kernel
theorem d_pl_addRounds_21 : decode prog_3_method_7_code 21 = .ok (.goto (-19), 3) := by decide +kernel
theorem d_pl_addRounds_24 : decode prog_3_method_7_code 24 = .ok (.return_, 1) := by decide +kernel
theorem d_pl_leastWith_0 : decode prog_3_method_8_code 0 = .ok (.aload_n 0, 1) := by decide +kernel
theorem d_pl_leastWith_1 : decode prog_3_method_8_code 1 = .ok (.getfield 26, 3) := by decide +kernel
theorem d_pl_leastWith_4 : decode prog_3_method_8_code 4 = .ok (.iload_n 2, 1) := by decide +kernel
theorem d_pl_leastWith_5 : decode prog_3_method_8_code 5 = .ok (.laload, 1) := by decide +kernel
theorem d_pl_leastWith_6 : decode prog_3_method_8_code 6 = .ok (.lstore_n 3, 1) := by decide +kernel
theorem d_pl_leastWith_7 : decode prog_3_method_8_code 7 = .ok (.iload_n 2, 1) := by decide +kernel
theorem d_pl_leastWith_8 : decode prog_3_method_8_code 8 = .ok (.istore 5, 2) := by decide +kernel
theorem d_pl_leastWith_10 : decode prog_3_method_8_code 10 = .ok (.iload 5, 2) := by decide +kernel
theorem d_pl_leastWith_12 : decode prog_3_method_8_code 12 = .ok (.ifCond .le 42, 3) := by decide +kernel
theorem d_pl_leastWith_15 : decode prog_3_method_8_code 15 = .ok (.lload_n 3, 1) := by decide +kernel
theorem d_pl_leastWith_16 : decode prog_3_method_8_code 16 = .ok (.aload_n 0, 1) := by decide +kernel
theorem d_pl_leastWith_17 : decode prog_3_method_8_code 17 = .ok (.getfield 19, 3) := by decide +kernel
theorem d_pl_leastWith_20 : decode prog_3_method_8_code 20 = .ok (.iload_n 1, 1) := by decide +kernel
theorem d_pl_leastWith_21 : decode prog_3_method_8_code 21 = .ok (.sipush 128, 3) := by decide +kernel
theorem d_pl_leastWith_24 : decode prog_3_method_8_code 24 = .ok (.imul, 1) := by decide +kernel
theorem d_pl_leastWith_25 : decode prog_3_method_8_code 25 = .ok (.iload 5, 2) := by decide +kernel
theorem d_pl_leastWith_27 : decode prog_3_method_8_code 27 = .ok (.iadd, 1) := by decide +kernel
theorem d_pl_leastWith_28 : decode prog_3_method_8_code 28 = .ok (.laload, 1) := by decide +kernel
theorem d_pl_leastWith_29 : decode prog_3_method_8_code 29 = .ok (.aload_n 0, 1) := by decide +kernel
theorem d_pl_leastWith_30 : decode prog_3_method_8_code 30 = .ok (.getfield 26, 3) := by decide +kernel
theorem d_pl_leastWith_33 : decode prog_3_method_8_code 33 = .ok (.iload_n 2, 1) := by decide +kernel
theorem d_pl_leastWith_34 : decode prog_3_method_8_code 34 = .ok (.iload 5, 2) := by decide +kernel
theorem d_pl_leastWith_36 : decode prog_3_method_8_code 36 = .ok (.isub, 1) := by decide +kernel
theorem d_pl_leastWith_37 : decode prog_3_method_8_code 37 = .ok (.laload, 1) := by decide +kernel
theorem d_pl_leastWith_38 : decode prog_3_method_8_code 38 = .ok (.ladd, 1) := by decide +kernel
theorem d_pl_leastWith_39 : decode prog_3_method_8_code 39 = .ok (.invokestatic 92, 3) := by decide +kernel
theorem d_pl_leastWith_42 : decode prog_3_method_8_code 42 = .ok (.lstore_n 3, 1) := by decide +kernel
theorem d_pl_leastWith_43 : decode prog_3_method_8_code 43 = .ok (.iload 5, 2) := by decide +kernel
theorem d_pl_leastWith_45 : decode prog_3_method_8_code 45 = .ok (.iconst 1, 1) := by decide +kernel
theorem d_pl_leastWith_46 : decode prog_3_method_8_code 46 = .ok (.isub, 1) := by decide +kernel
theorem d_pl_leastWith_47 : decode prog_3_method_8_code 47 = .ok (.iload_n 2, 1) := by decide +kernel
theorem d_pl_leastWith_48 : decode prog_3_method_8_code 48 = .ok (.iand, 1) := by decide +kernel
theorem d_pl_leastWith_49 : decode prog_3_method_8_code 49 = .ok (.istore 5, 2) := by decide +kernel
theorem d_pl_leastWith_51 : decode prog_3_method_8_code 51 = .ok (.goto (-41), 3) := by decide +kernel
theorem d_pl_leastWith_54 : decode prog_3_method_8_code 54 = .ok (.lload_n 3, 1) := by decide +kernel
theorem d_pl_leastWith_55 : decode prog_3_method_8_code 55 = .ok (.lreturn, 1) := by decide +kernel
theorem d_rd_init_0 : decode prog_4_method_1_code 0 = .ok (.aload_n 0, 1) := by decide +kernel
theorem d_rd_init_1 : decode prog_4_method_1_code 1 = .ok (.invokespecial 3, 3) := by decide +kernel
theorem d_rd_init_4 : decode prog_4_method_1_code 4 = .ok (.aload_n 0, 1) := by decide +kernel
theorem d_rd_init_5 : decode prog_4_method_1_code 5 = .ok (.aload_n 1, 1) := by decide +kernel
theorem d_rd_init_6 : decode prog_4_method_1_code 6 = .ok (.putfield 9, 3) := by decide +kernel
theorem d_rd_init_9 : decode prog_4_method_1_code 9 = .ok (.aload_n 0, 1) := by decide +kernel
theorem d_rd_init_10 : decode prog_4_method_1_code 10 = .ok (.sipush 384, 3) := by decide +kernel
theorem d_rd_init_13 : decode prog_4_method_1_code 13 = .ok (.newarray .int, 2) := by decide +kernel
theorem d_rd_init_15 : decode prog_4_method_1_code 15 = .ok (.putfield 15, 3) := by decide +kernel
theorem d_rd_init_18 : decode prog_4_method_1_code 18 = .ok (.aload_n 0, 1) := by decide +kernel
theorem d_rd_init_19 : decode prog_4_method_1_code 19 = .ok (.sipush 896, 3) := by decide +kernel
theorem d_rd_init_22 : decode prog_4_method_1_code 22 = .ok (.newarray .int, 2) := by decide +kernel
theorem d_rd_init_24 : decode prog_4_method_1_code 24 = .ok (.putfield 19, 3) := by decide +kernel
theorem d_rd_init_27 : decode prog_4_method_1_code 27 = .ok (.aload_n 0, 1) := by decide +kernel
theorem d_rd_init_28 : decode prog_4_method_1_code 28 = .ok (.sipush 896, 3) := by decide +kernel
theorem d_rd_init_31 : decode prog_4_method_1_code 31 = .ok (.newarray .int, 2) := by decide +kernel
theorem d_rd_init_33 : decode prog_4_method_1_code 33 = .ok (.putfield 22, 3) := by decide +kernel
theorem d_rd_init_36 : decode prog_4_method_1_code 36 = .ok (.return_, 1) := by decide +kernel
end
section
theorem d_rd_firstBack_0 : decode prog_4_method_2_code 0 = .ok (.aload_n 0, 1) := by decide +kernel
theorem d_rd_firstBack_1 : decode prog_4_method_2_code 1 = .ok (.getfield 15, 3) := by decide +kernel
theorem d_rd_firstBack_4 : decode prog_4_method_2_code 4 = .ok (.iload_n 1, 1) := by decide +kernel
theorem d_rd_firstBack_5 : decode prog_4_method_2_code 5 = .ok (.sipush 128, 3) := by decide +kernel
theorem d_rd_firstBack_8 : decode prog_4_method_2_code 8 = .ok (.imul, 1) := by decide +kernel
theorem d_rd_firstBack_9 : decode prog_4_method_2_code 9 = .ok (.iload_n 2, 1) := by decide +kernel
theorem d_rd_firstBack_10 : decode prog_4_method_2_code 10 = .ok (.iadd, 1) := by decide +kernel
theorem d_rd_firstBack_11 : decode prog_4_method_2_code 11 = .ok (.iaload, 1) := by decide +kernel
theorem d_rd_firstBack_12 : decode prog_4_method_2_code 12 = .ok (.ireturn, 1) := by decide +kernel
theorem d_rd_findBacks_0 : decode prog_4_method_3_code 0 = .ok (.iconst 0, 1) := by decide +kernel
theorem d_rd_findBacks_1 : decode prog_4_method_3_code 1 = .ok (.istore_n 1, 1) := by decide +kernel
theorem d_rd_findBacks_2 : decode prog_4_method_3_code 2 = .ok (.iload_n 1, 1) := by decide +kernel
theorem d_rd_findBacks_3 : decode prog_4_method_3_code 3 = .ok (.aload_n 0, 1) := by decide +kernel
theorem d_rd_findBacks_4 : decode prog_4_method_3_code 4 = .ok (.getfield 9, 3) := by decide +kernel
theorem d_rd_findBacks_7 : decode prog_4_method_3_code 7 = .ok (.getfield 25, 3) := by decide +kernel
theorem d_rd_findBacks_10 : decode prog_4_method_3_code 10 = .ok (.if_icmp .ge 64, 3) := by decide +kernel
theorem d_rd_findBacks_13 : decode prog_4_method_3_code 13 = .ok (.iconst 1, 1) := by decide +kernel
theorem d_rd_findBacks_14 : decode prog_4_method_3_code 14 = .ok (.istore_n 2, 1) := by decide +kernel
theorem d_rd_findBacks_15 : decode prog_4_method_3_code 15 = .ok (.iload_n 2, 1) := by decide +kernel
theorem d_rd_findBacks_16 : decode prog_4_method_3_code 16 = .ok (.iconst 1, 1) := by decide +kernel
theorem d_rd_findBacks_17 : decode prog_4_method_3_code 17 = .ok (.aload_n 0, 1) := by decide +kernel
theorem d_rd_findBacks_18 : decode prog_4_method_3_code 18 = .ok (.getfield 9, 3) := by decide +kernel
theorem d_rd_findBacks_21 : decode prog_4_method_3_code 21 = .ok (.getfield 31, 3) := by decide +kernel
theorem d_rd_findBacks_24 : decode prog_4_method_3_code 24 = .ok (.ishl, 1) := by decide +kernel
theorem d_rd_findBacks_25 : decode prog_4_method_3_code 25 = .ok (.if_icmp .ge 43, 3) := by decide +kernel
theorem d_rd_findBacks_28 : decode prog_4_method_3_code 28 = .ok (.aload_n 0, 1) := by decide +kernel
theorem d_rd_findBacks_29 : decode prog_4_method_3_code 29 = .ok (.iload_n 1, 1) := by decide +kernel
theorem d_rd_findBacks_30 : decode prog_4_method_3_code 30 = .ok (.iload_n 2, 1) := by decide +kernel
theorem d_rd_findBacks_31 : decode prog_4_method_3_code 31 = .ok (.invokevirtual 34, 3) := by decide +kernel
theorem d_rd_findBacks_34 : decode prog_4_method_3_code 34 = .ok (.istore_n 3, 1) := by decide +kernel
theorem d_rd_findBacks_35 : decode prog_4_method_3_code 35 = .ok (.aload_n 0, 1) := by decide +kernel
theorem d_rd_findBacks_36 : decode prog_4_method_3_code 36 = .ok (.getfield 15, 3) := by decide +kernel
theorem d_rd_findBacks_39 : decode prog_4_method_3_code 39 = .ok (.iload_n 1, 1) := by decide +kernel
theorem d_rd_findBacks_40 : decode prog_4_method_3_code 40 = .ok (.sipush 128, 3) := by decide +kernel
theorem d_rd_findBacks_43 : decode prog_4_method_3_code 43 = .ok (.imul, 1) := by decide +kernel
theorem d_rd_findBacks_44 : decode prog_4_method_3_code 44 = .ok (.iload_n 2, 1) := by decide +kernel
theorem d_rd_findBacks_45 : decode prog_4_method_3_code 45 = .ok (.iadd, 1) := by decide +kernel
theorem d_rd_findBacks_46 : decode prog_4_method_3_code 46 = .ok (.iload_n 3, 1) := by decide +kernel
theorem d_rd_findBacks_47 : decode prog_4_method_3_code 47 = .ok (.ifCond .eq 12, 3) := by decide +kernel
theorem d_rd_findBacks_50 : decode prog_4_method_3_code 50 = .ok (.aload_n 0, 1) := by decide +kernel
theorem d_rd_findBacks_51 : decode prog_4_method_3_code 51 = .ok (.iload_n 1, 1) := by decide +kernel
theorem d_rd_findBacks_52 : decode prog_4_method_3_code 52 = .ok (.iload_n 2, 1) := by decide +kernel
theorem d_rd_findBacks_53 : decode prog_4_method_3_code 53 = .ok (.invokevirtual 38, 3) := by decide +kernel
theorem d_rd_findBacks_56 : decode prog_4_method_3_code 56 = .ok (.goto 5, 3) := by decide +kernel
theorem d_rd_findBacks_59 : decode prog_4_method_3_code 59 = .ok (.ldc 42, 2) := by decide +kernel
theorem d_rd_findBacks_61 : decode prog_4_method_3_code 61 = .ok (.iastore, 1) := by decide +kernel
theorem d_rd_findBacks_62 : decode prog_4_method_3_code 62 = .ok (.iinc 2 1, 3) := by decide +kernel
theorem d_rd_findBacks_65 : decode prog_4_method_3_code 65 = .ok (.goto (-50), 3) := by decide +kernel
theorem d_rd_findBacks_68 : decode prog_4_method_3_code 68 = .ok (.iinc 1 1, 3) := by decide +kernel
theorem d_rd_findBacks_71 : decode prog_4_method_3_code 71 = .ok (.goto (-69), 3) := by decide +kernel
theorem d_rd_findBacks_74 : decode prog_4_method_3_code 74 = .ok (.return_, 1) := by decide +kernel
theorem d_rd_mayHave_0 : decode prog_4_method_4_code 0 = .ok (.iconst 0, 1) := by decide +kernel
theorem d_rd_mayHave_1 : decode prog_4_method_4_code 1 = .ok (.istore_n 3, 1) := by decide +kernel
theorem d_rd_mayHave_2 : decode prog_4_method_4_code 2 = .ok (.iconst 0, 1) := by decide +kernel
theorem d_rd_mayHave_3 : decode prog_4_method_4_code 3 = .ok (.istore 4, 2) := by decide +kernel
theorem d_rd_mayHave_5 : decode prog_4_method_4_code 5 = .ok (.iload 4, 2) := by decide +kernel
theorem d_rd_mayHave_7 : decode prog_4_method_4_code 7 = .ok (.aload_n 0, 1) := by decide +kernel
theorem d_rd_mayHave_8 : decode prog_4_method_4_code 8 = .ok (.getfield 9, 3) := by decide +kernel
theorem d_rd_mayHave_11 : decode prog_4_method_4_code 11 = .ok (.getfield 31, 3) := by decide +kernel
theorem d_rd_mayHave_14 : decode prog_4_method_4_code 14 = .ok (.if_icmp .ge 72, 3) := by decide +kernel
theorem d_rd_mayHave_17 : decode prog_4_method_4_code 17 = .ok (.iload_n 2, 1) := by decide +kernel
theorem d_rd_mayHave_18 : decode prog_4_method_4_code 18 = .ok (.iload 4, 2) := by decide +kernel
theorem d_rd_mayHave_20 : decode prog_4_method_4_code 20 = .ok (.invokestatic 43, 3) := by decide +kernel
theorem d_rd_mayHave_23 : decode prog_4_method_4_code 23 = .ok (.ifCond .eq 57, 3) := by decide +kernel
theorem d_rd_mayHave_26 : decode prog_4_method_4_code 26 = .ok (.aload_n 0, 1) := by decide +kernel
theorem d_rd_mayHave_27 : decode prog_4_method_4_code 27 = .ok (.getfield 9, 3) := by decide +kernel
theorem d_rd_mayHave_30 : decode prog_4_method_4_code 30 = .ok (.getfield 46, 3) := by decide +kernel
theorem d_rd_mayHave_33 : decode prog_4_method_4_code 33 = .ok (.iload 4, 2) := by decide +kernel
theorem d_rd_mayHave_35 : decode prog_4_method_4_code 35 = .ok (.iaload, 1) := by decide +kernel
theorem d_rd_mayHave_36 : decode prog_4_method_4_code 36 = .ok (.istore 5, 2) := by decide +kernel
theorem d_rd_mayHave_38 : decode prog_4_method_4_code 38 = .ok (.iload 5, 2) := by decide +kernel
theorem d_rd_mayHave_40 : decode prog_4_method_4_code 40 = .ok (.iconst (-1), 1) := by decide +kernel
theorem d_rd_mayHave_41 : decode prog_4_method_4_code 41 = .ok (.if_icmp .eq 9, 3) := by decide +kernel
theorem d_rd_mayHave_44 : decode prog_4_method_4_code 44 = .ok (.iload 5, 2) := by decide +kernel
theorem d_rd_mayHave_46 : decode prog_4_method_4_code 46 = .ok (.iload_n 1, 1) := by decide +kernel
theorem d_rd_mayHave_47 : decode prog_4_method_4_code 47 = .ok (.if_icmp .ne 18, 3) := by decide +kernel
theorem d_rd_mayHave_50 : decode prog_4_method_4_code 50 = .ok (.aload_n 0, 1) := by decide +kernel
theorem d_rd_mayHave_51 : decode prog_4_method_4_code 51 = .ok (.getfield 9, 3) := by decide +kernel
theorem d_rd_mayHave_54 : decode prog_4_method_4_code 54 = .ok (.getfield 49, 3) := by decide +kernel
theorem d_rd_mayHave_57 : decode prog_4_method_4_code 57 = .ok (.iload 4, 2) := by decide +kernel
theorem d_rd_mayHave_59 : decode prog_4_method_4_code 59 = .ok (.iaload, 1) := by decide +kernel
theorem d_rd_mayHave_60 : decode prog_4_method_4_code 60 = .ok (.iload_n 2, 1) := by decide +kernel
theorem d_rd_mayHave_61 : decode prog_4_method_4_code 61 = .ok (.iand, 1) := by decide +kernel
theorem d_rd_mayHave_62 : decode prog_4_method_4_code 62 = .ok (.ifCond .eq 5, 3) := by decide +kernel
theorem d_rd_mayHave_65 : decode prog_4_method_4_code 65 = .ok (.iconst 0, 1) := by decide +kernel
theorem d_rd_mayHave_66 : decode prog_4_method_4_code 66 = .ok (.ireturn, 1) := by decide +kernel
theorem d_rd_mayHave_67 : decode prog_4_method_4_code 67 = .ok (.iload_n 3, 1) := by decide +kernel
theorem d_rd_mayHave_68 : decode prog_4_method_4_code 68 = .ok (.aload_n 0, 1) := by decide +kernel
theorem d_rd_mayHave_69 : decode prog_4_method_4_code 69 = .ok (.getfield 9, 3) := by decide +kernel
theorem d_rd_mayHave_72 : decode prog_4_method_4_code 72 = .ok (.getfield 52, 3) := by decide +kernel
theorem d_rd_mayHave_75 : decode prog_4_method_4_code 75 = .ok (.iload 4, 2) := by decide +kernel
theorem d_rd_mayHave_77 : decode prog_4_method_4_code 77 = .ok (.iaload, 1) := by decide +kernel
theorem d_rd_mayHave_78 : decode prog_4_method_4_code 78 = .ok (.iadd, 1) := by decide +kernel
theorem d_rd_mayHave_79 : decode prog_4_method_4_code 79 = .ok (.istore_n 3, 1) := by decide +kernel
theorem d_rd_mayHave_80 : decode prog_4_method_4_code 80 = .ok (.iinc 4 1, 3) := by decide +kernel
theorem d_rd_mayHave_83 : decode prog_4_method_4_code 83 = .ok (.goto (-78), 3) := by decide +kernel
theorem d_rd_mayHave_86 : decode prog_4_method_4_code 86 = .ok (.iload_n 3, 1) := by decide +kernel
theorem d_rd_mayHave_87 : decode prog_4_method_4_code 87 = .ok (.aload_n 0, 1) := by decide +kernel
theorem d_rd_mayHave_88 : decode prog_4_method_4_code 88 = .ok (.getfield 9, 3) := by decide +kernel
theorem d_rd_mayHave_91 : decode prog_4_method_4_code 91 = .ok (.getfield 55, 3) := by decide +kernel
theorem d_rd_mayHave_94 : decode prog_4_method_4_code 94 = .ok (.iload_n 1, 1) := by decide +kernel
theorem d_rd_mayHave_95 : decode prog_4_method_4_code 95 = .ok (.iaload, 1) := by decide +kernel
theorem d_rd_mayHave_96 : decode prog_4_method_4_code 96 = .ok (.if_icmp .gt 7, 3) := by decide +kernel
theorem d_rd_mayHave_99 : decode prog_4_method_4_code 99 = .ok (.iconst 1, 1) := by decide +kernel
theorem d_rd_mayHave_100 : decode prog_4_method_4_code 100 = .ok (.goto 4, 3) := by decide +kernel
theorem d_rd_mayHave_103 : decode prog_4_method_4_code 103 = .ok (.iconst 0, 1) := by decide +kernel
theorem d_rd_mayHave_104 : decode prog_4_method_4_code 104 = .ok (.ireturn, 1) := by decide +kernel
theorem d_rd_findBack_0 : decode prog_4_method_5_code 0 = .ok (.ldc 42, 2) := by decide +kernel
theorem d_rd_findBack_2 : decode prog_4_method_5_code 2 = .ok (.istore_n 3, 1) := by decide +kernel
theorem d_rd_findBack_3 : decode prog_4_method_5_code 3 = .ok (.iconst 0, 1) := by decide +kernel
theorem d_rd_findBack_4 : decode prog_4_method_5_code 4 = .ok (.istore 4, 2) := by decide +kernel
theorem d_rd_findBack_6 : decode prog_4_method_5_code 6 = .ok (.iload 4, 2) := by decide +kernel
theorem d_rd_findBack_8 : decode prog_4_method_5_code 8 = .ok (.aload_n 0, 1) := by decide +kernel
theorem d_rd_findBack_9 : decode prog_4_method_5_code 9 = .ok (.getfield 9, 3) := by decide +kernel
theorem d_rd_findBack_12 : decode prog_4_method_5_code 12 = .ok (.getfield 31, 3) := by decide +kernel
theorem d_rd_findBack_15 : decode prog_4_method_5_code 15 = .ok (.if_icmp .ge 61, 3) := by decide +kernel
theorem d_rd_findBack_18 : decode prog_4_method_5_code 18 = .ok (.iload_n 2, 1) := by decide +kernel
theorem d_rd_findBack_19 : decode prog_4_method_5_code 19 = .ok (.iload 4, 2) := by decide +kernel
theorem d_rd_findBack_21 : decode prog_4_method_5_code 21 = .ok (.invokestatic 43, 3) := by decide +kernel
theorem d_rd_findBack_24 : decode prog_4_method_5_code 24 = .ok (.ifCond .eq 46, 3) := by decide +kernel
theorem d_rd_findBack_27 : decode prog_4_method_5_code 27 = .ok (.aload_n 0, 1) := by decide +kernel
theorem d_rd_findBack_28 : decode prog_4_method_5_code 28 = .ok (.iload_n 1, 1) := by decide +kernel
theorem d_rd_findBack_29 : decode prog_4_method_5_code 29 = .ok (.iload_n 2, 1) := by decide +kernel
theorem d_rd_findBack_30 : decode prog_4_method_5_code 30 = .ok (.iload 4, 2) := by decide +kernel
theorem d_rd_findBack_32 : decode prog_4_method_5_code 32 = .ok (.invokevirtual 58, 3) := by decide +kernel
theorem d_rd_findBack_35 : decode prog_4_method_5_code 35 = .ok (.istore 5, 2) := by decide +kernel
theorem d_rd_findBack_37 : decode prog_4_method_5_code 37 = .ok (.aload_n 0, 1) := by decide +kernel
theorem d_rd_findBack_38 : decode prog_4_method_5_code 38 = .ok (.getfield 19, 3) := by decide +kernel
theorem d_rd_findBack_41 : decode prog_4_method_5_code 41 = .ok (.iload_n 2, 1) := by decide +kernel
theorem d_rd_findBack_42 : decode prog_4_method_5_code 42 = .ok (.bipush 7, 2) := by decide +kernel
theorem d_rd_findBack_44 : decode prog_4_method_5_code 44 = .ok (.imul, 1) := by decide +kernel
theorem d_rd_findBack_45 : decode prog_4_method_5_code 45 = .ok (.iload 4, 2) := by decide +kernel
theorem d_rd_findBack_47 : decode prog_4_method_5_code 47 = .ok (.iadd, 1) := by decide +kernel
theorem d_rd_findBack_48 : decode prog_4_method_5_code 48 = .ok (.iload 5, 2) := by decide +kernel
theorem d_rd_findBack_50 : decode prog_4_method_5_code 50 = .ok (.iastore, 1) := by decide +kernel
theorem d_rd_findBack_51 : decode prog_4_method_5_code 51 = .ok (.iload_n 3, 1) := by decide +kernel
theorem d_rd_findBack_52 : decode prog_4_method_5_code 52 = .ok (.iload 5, 2) := by decide +kernel
theorem d_rd_findBack_54 : decode prog_4_method_5_code 54 = .ok (.aload_n 0, 1) := by decide +kernel
theorem d_rd_findBack_55 : decode prog_4_method_5_code 55 = .ok (.getfield 9, 3) := by decide +kernel
theorem d_rd_findBack_58 : decode prog_4_method_5_code 58 = .ok (.iload 4, 2) := by decide +kernel
theorem d_rd_findBack_60 : decode prog_4_method_5_code 60 = .ok (.bipush 7, 2) := by decide +kernel
theorem d_rd_findBack_62 : decode prog_4_method_5_code 62 = .ok (.invokevirtual 62, 3) := by decide +kernel
theorem d_rd_findBack_65 : decode prog_4_method_5_code 65 = .ok (.iadd, 1) := by decide +kernel
theorem d_rd_findBack_66 : decode prog_4_method_5_code 66 = .ok (.invokestatic 65, 3) := by decide +kernel
theorem d_rd_findBack_69 : decode prog_4_method_5_code 69 = .ok (.istore_n 3, 1) := by decide +kernel
theorem d_rd_findBack_70 : decode prog_4_method_5_code 70 = .ok (.iinc 4 1, 3) := by decide +kernel
theorem d_rd_findBack_73 : decode prog_4_method_5_code 73 = .ok (.goto (-67), 3) := by decide +kernel
theorem d_rd_findBack_76 : decode prog_4_method_5_code 76 = .ok (.iload_n 3, 1) := by decide +kernel
theorem d_rd_findBack_77 : decode prog_4_method_5_code 77 = .ok (.aload_n 0, 1) := by decide +kernel
theorem d_rd_findBack_78 : decode prog_4_method_5_code 78 = .ok (.getfield 9, 3) := by decide +kernel
theorem d_rd_findBack_81 : decode prog_4_method_5_code 81 = .ok (.getfield 70, 3) := by decide +kernel
theorem d_rd_findBack_84 : decode prog_4_method_5_code 84 = .ok (.iload_n 1, 1) := by decide +kernel
theorem d_rd_findBack_85 : decode prog_4_method_5_code 85 = .ok (.iaload, 1) := by decide +kernel
theorem d_rd_findBack_86 : decode prog_4_method_5_code 86 = .ok (.if_icmp .gt 7, 3) := by decide +kernel
theorem d_rd_findBack_89 : decode prog_4_method_5_code 89 = .ok (.iload_n 3, 1) := by decide +kernel
theorem d_rd_findBack_90 : decode prog_4_method_5_code 90 = .ok (.goto 5, 3) := by decide +kernel
theorem d_rd_findBack_93 : decode prog_4_method_5_code 93 = .ok (.ldc 42, 2) := by decide +kernel
theorem d_rd_findBack_95 : decode prog_4_method_5_code 95 = .ok (.ireturn, 1) := by decide +kernel
theorem d_rd_findReady_0 : decode prog_4_method_6_code 0 = .ok (.iload_n 2, 1) := by decide +kernel
theorem d_rd_findReady_1 : decode prog_4_method_6_code 1 = .ok (.iload_n 3, 1) := by decide +kernel
theorem d_rd_findReady_2 : decode prog_4_method_6_code 2 = .ok (.invokestatic 73, 3) := by decide +kernel
theorem d_rd_findReady_5 : decode prog_4_method_6_code 5 = .ok (.istore 4, 2) := by decide +kernel
theorem d_rd_findReady_7 : decode prog_4_method_6_code 7 = .ok (.aload_n 0, 1) := by decide +kernel
theorem d_rd_findReady_8 : decode prog_4_method_6_code 8 = .ok (.getfield 9, 3) := by decide +kernel
theorem d_rd_findReady_11 : decode prog_4_method_6_code 11 = .ok (.getfield 76, 3) := by decide +kernel
theorem d_rd_findReady_14 : decode prog_4_method_6_code 14 = .ok (.iload_n 3, 1) := by decide +kernel
theorem d_rd_findReady_15 : decode prog_4_method_6_code 15 = .ok (.iaload, 1) := by decide +kernel
theorem d_rd_findReady_16 : decode prog_4_method_6_code 16 = .ok (.iload 4, 2) := by decide +kernel
theorem d_rd_findReady_18 : decode prog_4_method_6_code 18 = .ok (.iand, 1) := by decide +kernel
theorem d_rd_findReady_19 : decode prog_4_method_6_code 19 = .ok (.ifCond .eq 6, 3) := by decide +kernel
theorem d_rd_findReady_22 : decode prog_4_method_6_code 22 = .ok (.ldc 42, 2) := by decide +kernel
theorem d_rd_findReady_24 : decode prog_4_method_6_code 24 = .ok (.ireturn, 1) := by decide +kernel
theorem d_rd_findReady_25 : decode prog_4_method_6_code 25 = .ok (.iload 4, 2) := by decide +kernel
theorem d_rd_findReady_27 : decode prog_4_method_6_code 27 = .ok (.ifCond .ne 26, 3) := by decide +kernel
theorem d_rd_findReady_30 : decode prog_4_method_6_code 30 = .ok (.aload_n 0, 1) := by decide +kernel
theorem d_rd_findReady_31 : decode prog_4_method_6_code 31 = .ok (.getfield 9, 3) := by decide +kernel
theorem d_rd_findReady_34 : decode prog_4_method_6_code 34 = .ok (.getfield 79, 3) := by decide +kernel
theorem d_rd_findReady_37 : decode prog_4_method_6_code 37 = .ok (.iload_n 1, 1) := by decide +kernel
theorem d_rd_findReady_38 : decode prog_4_method_6_code 38 = .ok (.iaload, 1) := by decide +kernel
theorem d_rd_findReady_39 : decode prog_4_method_6_code 39 = .ok (.aload_n 0, 1) := by decide +kernel
theorem d_rd_findReady_40 : decode prog_4_method_6_code 40 = .ok (.getfield 9, 3) := by decide +kernel
theorem d_rd_findReady_43 : decode prog_4_method_6_code 43 = .ok (.bipush 7, 2) := by decide +kernel
theorem d_rd_findReady_45 : decode prog_4_method_6_code 45 = .ok (.iload_n 3, 1) := by decide +kernel
theorem d_rd_findReady_46 : decode prog_4_method_6_code 46 = .ok (.invokevirtual 62, 3) := by decide +kernel
theorem d_rd_findReady_49 : decode prog_4_method_6_code 49 = .ok (.iadd, 1) := by decide +kernel
theorem d_rd_findReady_50 : decode prog_4_method_6_code 50 = .ok (.goto 5, 3) := by decide +kernel
theorem d_rd_findReady_53 : decode prog_4_method_6_code 53 = .ok (.ldc 42, 2) := by decide +kernel
theorem d_rd_findReady_55 : decode prog_4_method_6_code 55 = .ok (.istore 5, 2) := by decide +kernel
theorem d_rd_findReady_57 : decode prog_4_method_6_code 57 = .ok (.iconst 0, 1) := by decide +kernel
theorem d_rd_findReady_58 : decode prog_4_method_6_code 58 = .ok (.istore 6, 2) := by decide +kernel
theorem d_rd_findReady_60 : decode prog_4_method_6_code 60 = .ok (.iload 6, 2) := by decide +kernel
theorem d_rd_findReady_62 : decode prog_4_method_6_code 62 = .ok (.aload_n 0, 1) := by decide +kernel
theorem d_rd_findReady_63 : decode prog_4_method_6_code 63 = .ok (.getfield 9, 3) := by decide +kernel
theorem d_rd_findReady_66 : decode prog_4_method_6_code 66 = .ok (.getfield 31, 3) := by decide +kernel
theorem d_rd_findReady_69 : decode prog_4_method_6_code 69 = .ok (.if_icmp .ge 54, 3) := by decide +kernel
theorem d_rd_findReady_72 : decode prog_4_method_6_code 72 = .ok (.iload 4, 2) := by decide +kernel
theorem d_rd_findReady_74 : decode prog_4_method_6_code 74 = .ok (.iload 6, 2) := by decide +kernel
theorem d_rd_findReady_76 : decode prog_4_method_6_code 76 = .ok (.invokestatic 43, 3) := by decide +kernel
theorem d_rd_findReady_79 : decode prog_4_method_6_code 79 = .ok (.ifCond .eq 38, 3) := by decide +kernel
theorem d_rd_findReady_82 : decode prog_4_method_6_code 82 = .ok (.aload_n 0, 1) := by decide +kernel
theorem d_rd_findReady_83 : decode prog_4_method_6_code 83 = .ok (.getfield 19, 3) := by decide +kernel
theorem d_rd_findReady_86 : decode prog_4_method_6_code 86 = .ok (.iload 4, 2) := by decide +kernel
theorem d_rd_findReady_88 : decode prog_4_method_6_code 88 = .ok (.bipush 7, 2) := by decide +kernel
theorem d_rd_findReady_90 : decode prog_4_method_6_code 90 = .ok (.imul, 1) := by decide +kernel
theorem d_rd_findReady_91 : decode prog_4_method_6_code 91 = .ok (.iload 6, 2) := by decide +kernel
theorem d_rd_findReady_93 : decode prog_4_method_6_code 93 = .ok (.iadd, 1) := by decide +kernel
theorem d_rd_findReady_94 : decode prog_4_method_6_code 94 = .ok (.iaload, 1) := by decide +kernel
theorem d_rd_findReady_95 : decode prog_4_method_6_code 95 = .ok (.aload_n 0, 1) := by decide +kernel
theorem d_rd_findReady_96 : decode prog_4_method_6_code 96 = .ok (.getfield 9, 3) := by decide +kernel
theorem d_rd_findReady_99 : decode prog_4_method_6_code 99 = .ok (.iload 6, 2) := by decide +kernel
theorem d_rd_findReady_101 : decode prog_4_method_6_code 101 = .ok (.iload_n 3, 1) := by decide +kernel
theorem d_rd_findReady_102 : decode prog_4_method_6_code 102 = .ok (.invokevirtual 62, 3) := by decide +kernel
theorem d_rd_findReady_105 : decode prog_4_method_6_code 105 = .ok (.iadd, 1) := by decide +kernel
theorem d_rd_findReady_106 : decode prog_4_method_6_code 106 = .ok (.istore 7, 2) := by decide +kernel
theorem d_rd_findReady_108 : decode prog_4_method_6_code 108 = .ok (.iload 5, 2) := by decide +kernel
theorem d_rd_findReady_110 : decode prog_4_method_6_code 110 = .ok (.iload 7, 2) := by decide +kernel
theorem d_rd_findReady_112 : decode prog_4_method_6_code 112 = .ok (.invokestatic 65, 3) := by decide +kernel
theorem d_rd_findReady_115 : decode prog_4_method_6_code 115 = .ok (.istore 5, 2) := by decide +kernel
theorem d_rd_findReady_117 : decode prog_4_method_6_code 117 = .ok (.iinc 6 1, 3) := by decide +kernel
theorem d_rd_findReady_120 : decode prog_4_method_6_code 120 = .ok (.goto (-60), 3) := by decide +kernel
theorem d_rd_findReady_123 : decode prog_4_method_6_code 123 = .ok (.iload 5, 2) := by decide +kernel
theorem d_rd_findReady_125 : decode prog_4_method_6_code 125 = .ok (.aload_n 0, 1) := by decide +kernel
theorem d_rd_findReady_126 : decode prog_4_method_6_code 126 = .ok (.getfield 9, 3) := by decide +kernel
theorem d_rd_findReady_129 : decode prog_4_method_6_code 129 = .ok (.getfield 82, 3) := by decide +kernel
theorem d_rd_findReady_132 : decode prog_4_method_6_code 132 = .ok (.iload_n 3, 1) := by decide +kernel
theorem d_rd_findReady_133 : decode prog_4_method_6_code 133 = .ok (.iaload, 1) := by decide +kernel
theorem d_rd_findReady_134 : decode prog_4_method_6_code 134 = .ok (.if_icmp .le 6, 3) := by decide +kernel
theorem d_rd_findReady_137 : decode prog_4_method_6_code 137 = .ok (.ldc 42, 2) := by decide +kernel
theorem d_rd_findReady_139 : decode prog_4_method_6_code 139 = .ok (.ireturn, 1) := by decide +kernel
theorem d_rd_findReady_140 : decode prog_4_method_6_code 140 = .ok (.iload 5, 2) := by decide +kernel
theorem d_rd_findReady_142 : decode prog_4_method_6_code 142 = .ok (.aload_n 0, 1) := by decide +kernel
theorem d_rd_findReady_143 : decode prog_4_method_6_code 143 = .ok (.getfield 9, 3) := by decide +kernel
theorem d_rd_findReady_146 : decode prog_4_method_6_code 146 = .ok (.getfield 85, 3) := by decide +kernel
theorem d_rd_findReady_149 : decode prog_4_method_6_code 149 = .ok (.iload_n 3, 1) := by decide +kernel
theorem d_rd_findReady_150 : decode prog_4_method_6_code 150 = .ok (.iaload, 1) := by decide +kernel
theorem d_rd_findReady_151 : decode prog_4_method_6_code 151 = .ok (.invokestatic 88, 3) := by decide +kernel
theorem d_rd_findReady_154 : decode prog_4_method_6_code 154 = .ok (.aload_n 0, 1) := by decide +kernel
theorem d_rd_findReady_155 : decode prog_4_method_6_code 155 = .ok (.getfield 9, 3) := by decide +kernel
theorem d_rd_findReady_158 : decode prog_4_method_6_code 158 = .ok (.getfield 91, 3) := by decide +kernel
theorem d_rd_findReady_161 : decode prog_4_method_6_code 161 = .ok (.iload_n 3, 1) := by decide +kernel
theorem d_rd_findReady_162 : decode prog_4_method_6_code 162 = .ok (.iaload, 1) := by decide +kernel
theorem d_rd_findReady_163 : decode prog_4_method_6_code 163 = .ok (.iadd, 1) := by decide +kernel
theorem d_rd_findReady_164 : decode prog_4_method_6_code 164 = .ok (.ireturn, 1) := by decide +kernel
theorem d_rd_drive_0 : decode prog_4_method_7_code 0 = .ok (.aload_n 0, 1) := by decide +kernel
theorem d_rd_drive_1 : decode prog_4_method_7_code 1 = .ok (.iload_n 2, 1) := by decide +kernel
theorem d_rd_drive_2 : decode prog_4_method_7_code 2 = .ok (.aload_n 0, 1) := by decide +kernel
theorem d_rd_drive_3 : decode prog_4_method_7_code 3 = .ok (.iload_n 1, 1) := by decide +kernel
theorem d_rd_drive_4 : decode prog_4_method_7_code 4 = .ok (.iload_n 2, 1) := by decide +kernel
theorem d_rd_drive_5 : decode prog_4_method_7_code 5 = .ok (.invokevirtual 94, 3) := by decide +kernel
theorem d_rd_drive_8 : decode prog_4_method_7_code 8 = .ok (.invokevirtual 97, 3) := by decide +kernel
theorem d_rd_drive_11 : decode prog_4_method_7_code 11 = .ok (.bipush 7, 2) := by decide +kernel
theorem d_rd_drive_13 : decode prog_4_method_7_code 13 = .ok (.istore 4, 2) := by decide +kernel
theorem d_rd_drive_15 : decode prog_4_method_7_code 15 = .ok (.aload_n 0, 1) := by decide +kernel
theorem d_rd_drive_16 : decode prog_4_method_7_code 16 = .ok (.getfield 9, 3) := by decide +kernel
theorem d_rd_drive_19 : decode prog_4_method_7_code 19 = .ok (.getfield 79, 3) := by decide +kernel
theorem d_rd_drive_22 : decode prog_4_method_7_code 22 = .ok (.iload_n 1, 1) := by decide +kernel
theorem d_rd_drive_23 : decode prog_4_method_7_code 23 = .ok (.iaload, 1) := by decide +kernel
theorem d_rd_drive_24 : decode prog_4_method_7_code 24 = .ok (.istore 5, 2) := by decide +kernel
theorem d_rd_drive_26 : decode prog_4_method_7_code 26 = .ok (.iload_n 2, 1) := by decide +kernel
theorem d_rd_drive_27 : decode prog_4_method_7_code 27 = .ok (.istore 6, 2) := by decide +kernel
theorem d_rd_drive_29 : decode prog_4_method_7_code 29 = .ok (.iconst 0, 1) := by decide +kernel
theorem d_rd_drive_30 : decode prog_4_method_7_code 30 = .ok (.istore 7, 2) := by decide +kernel
theorem d_rd_drive_32 : decode prog_4_method_7_code 32 = .ok (.iload 7, 2) := by decide +kernel
theorem d_rd_drive_34 : decode prog_4_method_7_code 34 = .ok (.bipush 7, 2) := by decide +kernel
theorem d_rd_drive_36 : decode prog_4_method_7_code 36 = .ok (.if_icmp .ge 99, 3) := by decide +kernel
theorem d_rd_drive_39 : decode prog_4_method_7_code 39 = .ok (.iload 6, 2) := by decide +kernel
theorem d_rd_drive_41 : decode prog_4_method_7_code 41 = .ok (.ifCond .eq 94, 3) := by decide +kernel
theorem d_rd_drive_44 : decode prog_4_method_7_code 44 = .ok (.aload_n 0, 1) := by decide +kernel
theorem d_rd_drive_45 : decode prog_4_method_7_code 45 = .ok (.iload 4, 2) := by decide +kernel
theorem d_rd_drive_47 : decode prog_4_method_7_code 47 = .ok (.iload 5, 2) := by decide +kernel
theorem d_rd_drive_49 : decode prog_4_method_7_code 49 = .ok (.iload 6, 2) := by decide +kernel
theorem d_rd_drive_51 : decode prog_4_method_7_code 51 = .ok (.invokevirtual 101, 3) := by decide +kernel
theorem d_rd_drive_54 : decode prog_4_method_7_code 54 = .ok (.istore 8, 2) := by decide +kernel
theorem d_rd_drive_56 : decode prog_4_method_7_code 56 = .ok (.iload 8, 2) := by decide +kernel
theorem d_rd_drive_58 : decode prog_4_method_7_code 58 = .ok (.iconst (-1), 1) := by decide +kernel
theorem d_rd_drive_59 : decode prog_4_method_7_code 59 = .ok (.if_icmp .ne 4, 3) := by decide +kernel
theorem d_rd_drive_62 : decode prog_4_method_7_code 62 = .ok (.return_, 1) := by decide +kernel
theorem d_rd_drive_63 : decode prog_4_method_7_code 63 = .ok (.iload 5, 2) := by decide +kernel
theorem d_rd_drive_65 : decode prog_4_method_7_code 65 = .ok (.aload_n 0, 1) := by decide +kernel
theorem d_rd_drive_66 : decode prog_4_method_7_code 66 = .ok (.getfield 9, 3) := by decide +kernel
theorem d_rd_drive_69 : decode prog_4_method_7_code 69 = .ok (.iload 4, 2) := by decide +kernel
theorem d_rd_drive_71 : decode prog_4_method_7_code 71 = .ok (.iload 8, 2) := by decide +kernel
theorem d_rd_drive_73 : decode prog_4_method_7_code 73 = .ok (.invokevirtual 62, 3) := by decide +kernel
theorem d_rd_drive_76 : decode prog_4_method_7_code 76 = .ok (.iadd, 1) := by decide +kernel
theorem d_rd_drive_77 : decode prog_4_method_7_code 77 = .ok (.aload_n 0, 1) := by decide +kernel
theorem d_rd_drive_78 : decode prog_4_method_7_code 78 = .ok (.getfield 9, 3) := by decide +kernel
theorem d_rd_drive_81 : decode prog_4_method_7_code 81 = .ok (.getfield 85, 3) := by decide +kernel
theorem d_rd_drive_84 : decode prog_4_method_7_code 84 = .ok (.iload 8, 2) := by decide +kernel
theorem d_rd_drive_86 : decode prog_4_method_7_code 86 = .ok (.iaload, 1) := by decide +kernel
theorem d_rd_drive_87 : decode prog_4_method_7_code 87 = .ok (.invokestatic 88, 3) := by decide +kernel
theorem d_rd_drive_90 : decode prog_4_method_7_code 90 = .ok (.istore 5, 2) := by decide +kernel
theorem d_rd_drive_92 : decode prog_4_method_7_code 92 = .ok (.aload_n 3, 1) := by decide +kernel
theorem d_rd_drive_93 : decode prog_4_method_7_code 93 = .ok (.iload_n 1, 1) := by decide +kernel
theorem d_rd_drive_94 : decode prog_4_method_7_code 94 = .ok (.iload 8, 2) := by decide +kernel
theorem d_rd_drive_96 : decode prog_4_method_7_code 96 = .ok (.iload 5, 2) := by decide +kernel
theorem d_rd_drive_98 : decode prog_4_method_7_code 98 = .ok (.invokevirtual 104, 3) := by decide +kernel
theorem d_rd_drive_101 : decode prog_4_method_7_code 101 = .ok (.iload 5, 2) := by decide +kernel
theorem d_rd_drive_103 : decode prog_4_method_7_code 103 = .ok (.aload_n 0, 1) := by decide +kernel
theorem d_rd_drive_104 : decode prog_4_method_7_code 104 = .ok (.getfield 9, 3) := by decide +kernel
theorem d_rd_drive_107 : decode prog_4_method_7_code 107 = .ok (.getfield 91, 3) := by decide +kernel
theorem d_rd_drive_110 : decode prog_4_method_7_code 110 = .ok (.iload 8, 2) := by decide +kernel
theorem d_rd_drive_112 : decode prog_4_method_7_code 112 = .ok (.iaload, 1) := by decide +kernel
theorem d_rd_drive_113 : decode prog_4_method_7_code 113 = .ok (.iadd, 1) := by decide +kernel
theorem d_rd_drive_114 : decode prog_4_method_7_code 114 = .ok (.istore 5, 2) := by decide +kernel
theorem d_rd_drive_116 : decode prog_4_method_7_code 116 = .ok (.iload 8, 2) := by decide +kernel
theorem d_rd_drive_118 : decode prog_4_method_7_code 118 = .ok (.istore 4, 2) := by decide +kernel
theorem d_rd_drive_120 : decode prog_4_method_7_code 120 = .ok (.iload 6, 2) := by decide +kernel
theorem d_rd_drive_122 : decode prog_4_method_7_code 122 = .ok (.iload 8, 2) := by decide +kernel
theorem d_rd_drive_124 : decode prog_4_method_7_code 124 = .ok (.invokestatic 73, 3) := by decide +kernel
theorem d_rd_drive_127 : decode prog_4_method_7_code 127 = .ok (.istore 6, 2) := by decide +kernel
theorem d_rd_drive_129 : decode prog_4_method_7_code 129 = .ok (.iinc 7 1, 3) := by decide +kernel
theorem d_rd_drive_132 : decode prog_4_method_7_code 132 = .ok (.goto (-100), 3) := by decide +kernel
theorem d_rd_drive_135 : decode prog_4_method_7_code 135 = .ok (.aload_n 3, 1) := by decide +kernel
theorem d_rd_drive_136 : decode prog_4_method_7_code 136 = .ok (.getfield 110, 3) := by decide +kernel
theorem d_rd_drive_139 : decode prog_4_method_7_code 139 = .ok (.iload_n 1, 1) := by decide +kernel
theorem d_rd_drive_140 : decode prog_4_method_7_code 140 = .ok (.iload 5, 2) := by decide +kernel
theorem d_rd_drive_142 : decode prog_4_method_7_code 142 = .ok (.aload_n 0, 1) := by decide +kernel
theorem d_rd_drive_143 : decode prog_4_method_7_code 143 = .ok (.getfield 9, 3) := by decide +kernel
theorem d_rd_drive_146 : decode prog_4_method_7_code 146 = .ok (.iload 4, 2) := by decide +kernel
theorem d_rd_drive_148 : decode prog_4_method_7_code 148 = .ok (.bipush 7, 2) := by decide +kernel
theorem d_rd_drive_150 : decode prog_4_method_7_code 150 = .ok (.invokevirtual 62, 3) := by decide +kernel
theorem d_rd_drive_153 : decode prog_4_method_7_code 153 = .ok (.iadd, 1) := by decide +kernel
theorem d_rd_drive_154 : decode prog_4_method_7_code 154 = .ok (.iastore, 1) := by decide +kernel
theorem d_rd_drive_155 : decode prog_4_method_7_code 155 = .ok (.return_, 1) := by decide +kernel
theorem d_rd_firstInTime_0 : decode prog_4_method_8_code 0 = .ok (.iconst 0, 1) := by decide +kernel
theorem d_rd_firstInTime_1 : decode prog_4_method_8_code 1 = .ok (.istore 4, 2) := by decide +kernel
theorem d_rd_firstInTime_3 : decode prog_4_method_8_code 3 = .ok (.iload 4, 2) := by decide +kernel
theorem d_rd_firstInTime_5 : decode prog_4_method_8_code 5 = .ok (.aload_n 0, 1) := by decide +kernel
theorem d_rd_firstInTime_6 : decode prog_4_method_8_code 6 = .ok (.getfield 9, 3) := by decide +kernel
theorem d_rd_firstInTime_9 : decode prog_4_method_8_code 9 = .ok (.getfield 31, 3) := by decide +kernel
theorem d_rd_firstInTime_12 : decode prog_4_method_8_code 12 = .ok (.if_icmp .ge 48, 3) := by decide +kernel
theorem d_rd_firstInTime_15 : decode prog_4_method_8_code 15 = .ok (.iload_n 3, 1) := by decide +kernel
theorem d_rd_firstInTime_16 : decode prog_4_method_8_code 16 = .ok (.iload 4, 2) := by decide +kernel
theorem d_rd_firstInTime_18 : decode prog_4_method_8_code 18 = .ok (.invokestatic 43, 3) := by decide +kernel
theorem d_rd_firstInTime_21 : decode prog_4_method_8_code 21 = .ok (.ifCond .eq 33, 3) := by decide +kernel
theorem d_rd_firstInTime_24 : decode prog_4_method_8_code 24 = .ok (.iload_n 2, 1) := by decide +kernel
theorem d_rd_firstInTime_25 : decode prog_4_method_8_code 25 = .ok (.aload_n 0, 1) := by decide +kernel
theorem d_rd_firstInTime_26 : decode prog_4_method_8_code 26 = .ok (.getfield 9, 3) := by decide +kernel
theorem d_rd_firstInTime_29 : decode prog_4_method_8_code 29 = .ok (.iload_n 1, 1) := by decide +kernel
theorem d_rd_firstInTime_30 : decode prog_4_method_8_code 30 = .ok (.iload 4, 2) := by decide +kernel
theorem d_rd_firstInTime_32 : decode prog_4_method_8_code 32 = .ok (.invokevirtual 62, 3) := by decide +kernel
theorem d_rd_firstInTime_35 : decode prog_4_method_8_code 35 = .ok (.iadd, 1) := by decide +kernel
theorem d_rd_firstInTime_36 : decode prog_4_method_8_code 36 = .ok (.aload_n 0, 1) := by decide +kernel
theorem d_rd_firstInTime_37 : decode prog_4_method_8_code 37 = .ok (.getfield 22, 3) := by decide +kernel
theorem d_rd_firstInTime_40 : decode prog_4_method_8_code 40 = .ok (.iload_n 3, 1) := by decide +kernel
theorem d_rd_firstInTime_41 : decode prog_4_method_8_code 41 = .ok (.bipush 7, 2) := by decide +kernel
theorem d_rd_firstInTime_43 : decode prog_4_method_8_code 43 = .ok (.imul, 1) := by decide +kernel
theorem d_rd_firstInTime_44 : decode prog_4_method_8_code 44 = .ok (.iload 4, 2) := by decide +kernel
theorem d_rd_firstInTime_46 : decode prog_4_method_8_code 46 = .ok (.iadd, 1) := by decide +kernel
theorem d_rd_firstInTime_47 : decode prog_4_method_8_code 47 = .ok (.iaload, 1) := by decide +kernel
theorem d_rd_firstInTime_48 : decode prog_4_method_8_code 48 = .ok (.if_icmp .gt 6, 3) := by decide +kernel
theorem d_rd_firstInTime_51 : decode prog_4_method_8_code 51 = .ok (.iload 4, 2) := by decide +kernel
theorem d_rd_firstInTime_53 : decode prog_4_method_8_code 53 = .ok (.ireturn, 1) := by decide +kernel
theorem d_rd_firstInTime_54 : decode prog_4_method_8_code 54 = .ok (.iinc 4 1, 3) := by decide +kernel
theorem d_rd_firstInTime_57 : decode prog_4_method_8_code 57 = .ok (.goto (-54), 3) := by decide +kernel
theorem d_rd_firstInTime_60 : decode prog_4_method_8_code 60 = .ok (.iconst (-1), 1) := by decide +kernel
theorem d_rd_firstInTime_61 : decode prog_4_method_8_code 61 = .ok (.ireturn, 1) := by decide +kernel
theorem d_rd_findLatest_0 : decode prog_4_method_9_code 0 = .ok (.iconst 1, 1) := by decide +kernel
theorem d_rd_findLatest_1 : decode prog_4_method_9_code 1 = .ok (.istore_n 3, 1) := by decide +kernel
theorem d_rd_findLatest_2 : decode prog_4_method_9_code 2 = .ok (.iload_n 3, 1) := by decide +kernel
theorem d_rd_findLatest_3 : decode prog_4_method_9_code 3 = .ok (.iload_n 1, 1) := by decide +kernel
theorem d_rd_findLatest_4 : decode prog_4_method_9_code 4 = .ok (.if_icmp .gt 67, 3) := by decide +kernel
theorem d_rd_findLatest_7 : decode prog_4_method_9_code 7 = .ok (.iconst 0, 1) := by decide +kernel
theorem d_rd_findLatest_8 : decode prog_4_method_9_code 8 = .ok (.istore 4, 2) := by decide +kernel
theorem d_rd_findLatest_10 : decode prog_4_method_9_code 10 = .ok (.iload 4, 2) := by decide +kernel
theorem d_rd_findLatest_12 : decode prog_4_method_9_code 12 = .ok (.aload_n 0, 1) := by decide +kernel
theorem d_rd_findLatest_13 : decode prog_4_method_9_code 13 = .ok (.getfield 9, 3) := by decide +kernel
theorem d_rd_findLatest_16 : decode prog_4_method_9_code 16 = .ok (.getfield 31, 3) := by decide +kernel
theorem d_rd_findLatest_19 : decode prog_4_method_9_code 19 = .ok (.if_icmp .ge 46, 3) := by decide +kernel
theorem d_rd_findLatest_22 : decode prog_4_method_9_code 22 = .ok (.iload_n 3, 1) := by decide +kernel
theorem d_rd_findLatest_23 : decode prog_4_method_9_code 23 = .ok (.iload_n 1, 1) := by decide +kernel
theorem d_rd_findLatest_24 : decode prog_4_method_9_code 24 = .ok (.iconst (-1), 1) := by decide +kernel
theorem d_rd_findLatest_25 : decode prog_4_method_9_code 25 = .ok (.ixor, 1) := by decide +kernel
theorem d_rd_findLatest_26 : decode prog_4_method_9_code 26 = .ok (.iand, 1) := by decide +kernel
theorem d_rd_findLatest_27 : decode prog_4_method_9_code 27 = .ok (.ifCond .ne 32, 3) := by decide +kernel
theorem d_rd_findLatest_30 : decode prog_4_method_9_code 30 = .ok (.iload_n 3, 1) := by decide +kernel
theorem d_rd_findLatest_31 : decode prog_4_method_9_code 31 = .ok (.iload 4, 2) := by decide +kernel
theorem d_rd_findLatest_33 : decode prog_4_method_9_code 33 = .ok (.invokestatic 43, 3) := by decide +kernel
theorem d_rd_findLatest_36 : decode prog_4_method_9_code 36 = .ok (.ifCond .eq 23, 3) := by decide +kernel
theorem d_rd_findLatest_39 : decode prog_4_method_9_code 39 = .ok (.aload_n 0, 1) := by decide +kernel
theorem d_rd_findLatest_40 : decode prog_4_method_9_code 40 = .ok (.getfield 22, 3) := by decide +kernel
theorem d_rd_findLatest_43 : decode prog_4_method_9_code 43 = .ok (.iload_n 3, 1) := by decide +kernel
theorem d_rd_findLatest_44 : decode prog_4_method_9_code 44 = .ok (.bipush 7, 2) := by decide +kernel
theorem d_rd_findLatest_46 : decode prog_4_method_9_code 46 = .ok (.imul, 1) := by decide +kernel
theorem d_rd_findLatest_47 : decode prog_4_method_9_code 47 = .ok (.iload 4, 2) := by decide +kernel
theorem d_rd_findLatest_49 : decode prog_4_method_9_code 49 = .ok (.iadd, 1) := by decide +kernel
theorem d_rd_findLatest_50 : decode prog_4_method_9_code 50 = .ok (.aload_n 0, 1) := by decide +kernel
theorem d_rd_findLatest_51 : decode prog_4_method_9_code 51 = .ok (.iload_n 3, 1) := by decide +kernel
theorem d_rd_findLatest_52 : decode prog_4_method_9_code 52 = .ok (.iload 4, 2) := by decide +kernel
theorem d_rd_findLatest_54 : decode prog_4_method_9_code 54 = .ok (.iload_n 2, 1) := by decide +kernel
theorem d_rd_findLatest_55 : decode prog_4_method_9_code 55 = .ok (.invokevirtual 111, 3) := by decide +kernel
theorem d_rd_findLatest_58 : decode prog_4_method_9_code 58 = .ok (.iastore, 1) := by decide +kernel
theorem d_rd_findLatest_59 : decode prog_4_method_9_code 59 = .ok (.iinc 4 1, 3) := by decide +kernel
theorem d_rd_findLatest_62 : decode prog_4_method_9_code 62 = .ok (.goto (-52), 3) := by decide +kernel
theorem d_rd_findLatest_65 : decode prog_4_method_9_code 65 = .ok (.iinc 3 1, 3) := by decide +kernel
theorem d_rd_findLatest_68 : decode prog_4_method_9_code 68 = .ok (.goto (-66), 3) := by decide +kernel
theorem d_rd_findLatest_71 : decode prog_4_method_9_code 71 = .ok (.return_, 1) := by decide +kernel
theorem d_rd_findLatestAt_0 : decode prog_4_method_10_code 0 = .ok (.iload_n 1, 1) := by decide +kernel
theorem d_rd_findLatestAt_1 : decode prog_4_method_10_code 1 = .ok (.iload_n 2, 1) := by decide +kernel
theorem d_rd_findLatestAt_2 : decode prog_4_method_10_code 2 = .ok (.invokestatic 73, 3) := by decide +kernel
theorem d_rd_findLatestAt_5 : decode prog_4_method_10_code 5 = .ok (.istore 4, 2) := by decide +kernel
theorem d_rd_findLatestAt_7 : decode prog_4_method_10_code 7 = .ok (.aload_n 0, 1) := by decide +kernel
theorem d_rd_findLatestAt_8 : decode prog_4_method_10_code 8 = .ok (.getfield 9, 3) := by decide +kernel
theorem d_rd_findLatestAt_11 : decode prog_4_method_10_code 11 = .ok (.getfield 114, 3) := by decide +kernel
theorem d_rd_findLatestAt_14 : decode prog_4_method_10_code 14 = .ok (.iload_n 2, 1) := by decide +kernel
theorem d_rd_findLatestAt_15 : decode prog_4_method_10_code 15 = .ok (.iaload, 1) := by decide +kernel
theorem d_rd_findLatestAt_16 : decode prog_4_method_10_code 16 = .ok (.iload 4, 2) := by decide +kernel
theorem d_rd_findLatestAt_18 : decode prog_4_method_10_code 18 = .ok (.iand, 1) := by decide +kernel
theorem d_rd_findLatestAt_19 : decode prog_4_method_10_code 19 = .ok (.ifCond .eq 5, 3) := by decide +kernel
theorem d_rd_findLatestAt_22 : decode prog_4_method_10_code 22 = .ok (.iconst (-1), 1) := by decide +kernel
theorem d_rd_findLatestAt_23 : decode prog_4_method_10_code 23 = .ok (.ireturn, 1) := by decide +kernel
theorem d_rd_findLatestAt_24 : decode prog_4_method_10_code 24 = .ok (.iload 4, 2) := by decide +kernel
theorem d_rd_findLatestAt_26 : decode prog_4_method_10_code 26 = .ok (.ifCond .ne 18, 3) := by decide +kernel
theorem d_rd_findLatestAt_29 : decode prog_4_method_10_code 29 = .ok (.iload_n 3, 1) := by decide +kernel
theorem d_rd_findLatestAt_30 : decode prog_4_method_10_code 30 = .ok (.aload_n 0, 1) := by decide +kernel
theorem d_rd_findLatestAt_31 : decode prog_4_method_10_code 31 = .ok (.getfield 9, 3) := by decide +kernel
theorem d_rd_findLatestAt_34 : decode prog_4_method_10_code 34 = .ok (.iload_n 2, 1) := by decide +kernel
theorem d_rd_findLatestAt_35 : decode prog_4_method_10_code 35 = .ok (.bipush 7, 2) := by decide +kernel
theorem d_rd_findLatestAt_37 : decode prog_4_method_10_code 37 = .ok (.invokevirtual 62, 3) := by decide +kernel
theorem d_rd_findLatestAt_40 : decode prog_4_method_10_code 40 = .ok (.isub, 1) := by decide +kernel
end
section
theorem d_rd_findLatestAt_41 : decode prog_4_method_10_code 41 = .ok (.goto 4, 3) := by decide +kernel
theorem d_rd_findLatestAt_44 : decode prog_4_method_10_code 44 = .ok (.iconst (-1), 1) := by decide +kernel
theorem d_rd_findLatestAt_45 : decode prog_4_method_10_code 45 = .ok (.istore 5, 2) := by decide +kernel
theorem d_rd_findLatestAt_47 : decode prog_4_method_10_code 47 = .ok (.iconst 0, 1) := by decide +kernel
theorem d_rd_findLatestAt_48 : decode prog_4_method_10_code 48 = .ok (.istore 6, 2) := by decide +kernel
theorem d_rd_findLatestAt_50 : decode prog_4_method_10_code 50 = .ok (.iload 6, 2) := by decide +kernel
theorem d_rd_findLatestAt_52 : decode prog_4_method_10_code 52 = .ok (.aload_n 0, 1) := by decide +kernel
theorem d_rd_findLatestAt_53 : decode prog_4_method_10_code 53 = .ok (.getfield 9, 3) := by decide +kernel
theorem d_rd_findLatestAt_56 : decode prog_4_method_10_code 56 = .ok (.getfield 31, 3) := by decide +kernel
theorem d_rd_findLatestAt_59 : decode prog_4_method_10_code 59 = .ok (.if_icmp .ge 54, 3) := by decide +kernel
theorem d_rd_findLatestAt_62 : decode prog_4_method_10_code 62 = .ok (.iload 4, 2) := by decide +kernel
theorem d_rd_findLatestAt_64 : decode prog_4_method_10_code 64 = .ok (.iload 6, 2) := by decide +kernel
theorem d_rd_findLatestAt_66 : decode prog_4_method_10_code 66 = .ok (.invokestatic 43, 3) := by decide +kernel
theorem d_rd_findLatestAt_69 : decode prog_4_method_10_code 69 = .ok (.ifCond .eq 38, 3) := by decide +kernel
theorem d_rd_findLatestAt_72 : decode prog_4_method_10_code 72 = .ok (.aload_n 0, 1) := by decide +kernel
theorem d_rd_findLatestAt_73 : decode prog_4_method_10_code 73 = .ok (.getfield 22, 3) := by decide +kernel
theorem d_rd_findLatestAt_76 : decode prog_4_method_10_code 76 = .ok (.iload 4, 2) := by decide +kernel
theorem d_rd_findLatestAt_78 : decode prog_4_method_10_code 78 = .ok (.bipush 7, 2) := by decide +kernel
theorem d_rd_findLatestAt_80 : decode prog_4_method_10_code 80 = .ok (.imul, 1) := by decide +kernel
theorem d_rd_findLatestAt_81 : decode prog_4_method_10_code 81 = .ok (.iload 6, 2) := by decide +kernel
theorem d_rd_findLatestAt_83 : decode prog_4_method_10_code 83 = .ok (.iadd, 1) := by decide +kernel
theorem d_rd_findLatestAt_84 : decode prog_4_method_10_code 84 = .ok (.iaload, 1) := by decide +kernel
theorem d_rd_findLatestAt_85 : decode prog_4_method_10_code 85 = .ok (.aload_n 0, 1) := by decide +kernel
theorem d_rd_findLatestAt_86 : decode prog_4_method_10_code 86 = .ok (.getfield 9, 3) := by decide +kernel
theorem d_rd_findLatestAt_89 : decode prog_4_method_10_code 89 = .ok (.iload_n 2, 1) := by decide +kernel
theorem d_rd_findLatestAt_90 : decode prog_4_method_10_code 90 = .ok (.iload 6, 2) := by decide +kernel
theorem d_rd_findLatestAt_92 : decode prog_4_method_10_code 92 = .ok (.invokevirtual 62, 3) := by decide +kernel
theorem d_rd_findLatestAt_95 : decode prog_4_method_10_code 95 = .ok (.isub, 1) := by decide +kernel
theorem d_rd_findLatestAt_96 : decode prog_4_method_10_code 96 = .ok (.istore 7, 2) := by decide +kernel
theorem d_rd_findLatestAt_98 : decode prog_4_method_10_code 98 = .ok (.iload 5, 2) := by decide +kernel
theorem d_rd_findLatestAt_100 : decode prog_4_method_10_code 100 = .ok (.iload 7, 2) := by decide +kernel
theorem d_rd_findLatestAt_102 : decode prog_4_method_10_code 102 = .ok (.invokestatic 88, 3) := by decide +kernel
theorem d_rd_findLatestAt_105 : decode prog_4_method_10_code 105 = .ok (.istore 5, 2) := by decide +kernel
theorem d_rd_findLatestAt_107 : decode prog_4_method_10_code 107 = .ok (.iinc 6 1, 3) := by decide +kernel
theorem d_rd_findLatestAt_110 : decode prog_4_method_10_code 110 = .ok (.goto (-60), 3) := by decide +kernel
theorem d_rd_findLatestAt_113 : decode prog_4_method_10_code 113 = .ok (.iload 5, 2) := by decide +kernel
theorem d_rd_findLatestAt_115 : decode prog_4_method_10_code 115 = .ok (.aload_n 0, 1) := by decide +kernel
theorem d_rd_findLatestAt_116 : decode prog_4_method_10_code 116 = .ok (.getfield 9, 3) := by decide +kernel
theorem d_rd_findLatestAt_119 : decode prog_4_method_10_code 119 = .ok (.getfield 91, 3) := by decide +kernel
theorem d_rd_findLatestAt_122 : decode prog_4_method_10_code 122 = .ok (.iload_n 2, 1) := by decide +kernel
theorem d_rd_findLatestAt_123 : decode prog_4_method_10_code 123 = .ok (.iaload, 1) := by decide +kernel
theorem d_rd_findLatestAt_124 : decode prog_4_method_10_code 124 = .ok (.isub, 1) := by decide +kernel
theorem d_rd_findLatestAt_125 : decode prog_4_method_10_code 125 = .ok (.istore 6, 2) := by decide +kernel
theorem d_rd_findLatestAt_127 : decode prog_4_method_10_code 127 = .ok (.iload 6, 2) := by decide +kernel
theorem d_rd_findLatestAt_129 : decode prog_4_method_10_code 129 = .ok (.aload_n 0, 1) := by decide +kernel
theorem d_rd_findLatestAt_130 : decode prog_4_method_10_code 130 = .ok (.getfield 9, 3) := by decide +kernel
theorem d_rd_findLatestAt_133 : decode prog_4_method_10_code 133 = .ok (.getfield 85, 3) := by decide +kernel
theorem d_rd_findLatestAt_136 : decode prog_4_method_10_code 136 = .ok (.iload_n 2, 1) := by decide +kernel
theorem d_rd_findLatestAt_137 : decode prog_4_method_10_code 137 = .ok (.iaload, 1) := by decide +kernel
theorem d_rd_findLatestAt_138 : decode prog_4_method_10_code 138 = .ok (.if_icmp .ge 7, 3) := by decide +kernel
theorem d_rd_findLatestAt_141 : decode prog_4_method_10_code 141 = .ok (.iconst (-1), 1) := by decide +kernel
theorem d_rd_findLatestAt_142 : decode prog_4_method_10_code 142 = .ok (.goto 17, 3) := by decide +kernel
theorem d_rd_findLatestAt_145 : decode prog_4_method_10_code 145 = .ok (.iload 6, 2) := by decide +kernel
theorem d_rd_findLatestAt_147 : decode prog_4_method_10_code 147 = .ok (.aload_n 0, 1) := by decide +kernel
theorem d_rd_findLatestAt_148 : decode prog_4_method_10_code 148 = .ok (.getfield 9, 3) := by decide +kernel
theorem d_rd_findLatestAt_151 : decode prog_4_method_10_code 151 = .ok (.getfield 82, 3) := by decide +kernel
theorem d_rd_findLatestAt_154 : decode prog_4_method_10_code 154 = .ok (.iload_n 2, 1) := by decide +kernel
theorem d_rd_findLatestAt_155 : decode prog_4_method_10_code 155 = .ok (.iaload, 1) := by decide +kernel
theorem d_rd_findLatestAt_156 : decode prog_4_method_10_code 156 = .ok (.invokestatic 65, 3) := by decide +kernel
theorem d_rd_findLatestAt_159 : decode prog_4_method_10_code 159 = .ok (.ireturn, 1) := by decide +kernel
theorem d_td_init_0 : decode prog_5_method_1_code 0 = .ok (.aload_n 0, 1) := by decide +kernel
theorem d_td_init_1 : decode prog_5_method_1_code 1 = .ok (.invokespecial 3, 3) := by decide +kernel
theorem d_td_init_4 : decode prog_5_method_1_code 4 = .ok (.aload_n 0, 1) := by decide +kernel
theorem d_td_init_5 : decode prog_5_method_1_code 5 = .ok (.bipush 7, 2) := by decide +kernel
theorem d_td_init_7 : decode prog_5_method_1_code 7 = .ok (.newarray .int, 2) := by decide +kernel
theorem d_td_init_9 : decode prog_5_method_1_code 9 = .ok (.putfield 9, 3) := by decide +kernel
theorem d_td_init_12 : decode prog_5_method_1_code 12 = .ok (.aload_n 0, 1) := by decide +kernel
theorem d_td_init_13 : decode prog_5_method_1_code 13 = .ok (.bipush 7, 2) := by decide +kernel
theorem d_td_init_15 : decode prog_5_method_1_code 15 = .ok (.newarray .int, 2) := by decide +kernel
theorem d_td_init_17 : decode prog_5_method_1_code 17 = .ok (.putfield 15, 3) := by decide +kernel
theorem d_td_init_20 : decode prog_5_method_1_code 20 = .ok (.aload_n 0, 1) := by decide +kernel
theorem d_td_init_21 : decode prog_5_method_1_code 21 = .ok (.bipush 7, 2) := by decide +kernel
theorem d_td_init_23 : decode prog_5_method_1_code 23 = .ok (.newarray .int, 2) := by decide +kernel
theorem d_td_init_25 : decode prog_5_method_1_code 25 = .ok (.putfield 18, 3) := by decide +kernel
theorem d_td_init_28 : decode prog_5_method_1_code 28 = .ok (.aload_n 0, 1) := by decide +kernel
theorem d_td_init_29 : decode prog_5_method_1_code 29 = .ok (.bipush 7, 2) := by decide +kernel
theorem d_td_init_31 : decode prog_5_method_1_code 31 = .ok (.newarray .int, 2) := by decide +kernel
theorem d_td_init_33 : decode prog_5_method_1_code 33 = .ok (.putfield 21, 3) := by decide +kernel
theorem d_td_init_36 : decode prog_5_method_1_code 36 = .ok (.aload_n 0, 1) := by decide +kernel
theorem d_td_init_37 : decode prog_5_method_1_code 37 = .ok (.bipush 7, 2) := by decide +kernel
theorem d_td_init_39 : decode prog_5_method_1_code 39 = .ok (.newarray .long, 2) := by decide +kernel
theorem d_td_init_41 : decode prog_5_method_1_code 41 = .ok (.putfield 24, 3) := by decide +kernel
theorem d_td_init_44 : decode prog_5_method_1_code 44 = .ok (.aload_n 0, 1) := by decide +kernel
theorem d_td_init_45 : decode prog_5_method_1_code 45 = .ok (.bipush 7, 2) := by decide +kernel
theorem d_td_init_47 : decode prog_5_method_1_code 47 = .ok (.newarray .int, 2) := by decide +kernel
theorem d_td_init_49 : decode prog_5_method_1_code 49 = .ok (.putfield 28, 3) := by decide +kernel
theorem d_td_init_52 : decode prog_5_method_1_code 52 = .ok (.aload_n 0, 1) := by decide +kernel
theorem d_td_init_53 : decode prog_5_method_1_code 53 = .ok (.bipush 7, 2) := by decide +kernel
theorem d_td_init_55 : decode prog_5_method_1_code 55 = .ok (.newarray .int, 2) := by decide +kernel
theorem d_td_init_57 : decode prog_5_method_1_code 57 = .ok (.putfield 31, 3) := by decide +kernel
theorem d_td_init_60 : decode prog_5_method_1_code 60 = .ok (.aload_n 0, 1) := by decide +kernel
theorem d_td_init_61 : decode prog_5_method_1_code 61 = .ok (.bipush 7, 2) := by decide +kernel
theorem d_td_init_63 : decode prog_5_method_1_code 63 = .ok (.newarray .int, 2) := by decide +kernel
theorem d_td_init_65 : decode prog_5_method_1_code 65 = .ok (.putfield 34, 3) := by decide +kernel
theorem d_td_init_68 : decode prog_5_method_1_code 68 = .ok (.aload_n 0, 1) := by decide +kernel
theorem d_td_init_69 : decode prog_5_method_1_code 69 = .ok (.bipush 7, 2) := by decide +kernel
theorem d_td_init_71 : decode prog_5_method_1_code 71 = .ok (.newarray .int, 2) := by decide +kernel
theorem d_td_init_73 : decode prog_5_method_1_code 73 = .ok (.putfield 37, 3) := by decide +kernel
theorem d_td_init_76 : decode prog_5_method_1_code 76 = .ok (.aload_n 0, 1) := by decide +kernel
theorem d_td_init_77 : decode prog_5_method_1_code 77 = .ok (.bipush 7, 2) := by decide +kernel
theorem d_td_init_79 : decode prog_5_method_1_code 79 = .ok (.newarray .int, 2) := by decide +kernel
theorem d_td_init_81 : decode prog_5_method_1_code 81 = .ok (.putfield 40, 3) := by decide +kernel
theorem d_td_init_84 : decode prog_5_method_1_code 84 = .ok (.aload_n 0, 1) := by decide +kernel
theorem d_td_init_85 : decode prog_5_method_1_code 85 = .ok (.iconst 3, 1) := by decide +kernel
theorem d_td_init_86 : decode prog_5_method_1_code 86 = .ok (.newarray .int, 2) := by decide +kernel
theorem d_td_init_88 : decode prog_5_method_1_code 88 = .ok (.putfield 43, 3) := by decide +kernel
theorem d_td_init_91 : decode prog_5_method_1_code 91 = .ok (.aload_n 0, 1) := by decide +kernel
theorem d_td_init_92 : decode prog_5_method_1_code 92 = .ok (.iconst 3, 1) := by decide +kernel
theorem d_td_init_93 : decode prog_5_method_1_code 93 = .ok (.newarray .int, 2) := by decide +kernel
theorem d_td_init_95 : decode prog_5_method_1_code 95 = .ok (.putfield 46, 3) := by decide +kernel
theorem d_td_init_98 : decode prog_5_method_1_code 98 = .ok (.aload_n 0, 1) := by decide +kernel
theorem d_td_init_99 : decode prog_5_method_1_code 99 = .ok (.iconst 3, 1) := by decide +kernel
theorem d_td_init_100 : decode prog_5_method_1_code 100 = .ok (.newarray .int, 2) := by decide +kernel
theorem d_td_init_102 : decode prog_5_method_1_code 102 = .ok (.putfield 49, 3) := by decide +kernel
theorem d_td_init_105 : decode prog_5_method_1_code 105 = .ok (.aload_n 0, 1) := by decide +kernel
theorem d_td_init_106 : decode prog_5_method_1_code 106 = .ok (.iconst 3, 1) := by decide +kernel
theorem d_td_init_107 : decode prog_5_method_1_code 107 = .ok (.newarray .int, 2) := by decide +kernel
theorem d_td_init_109 : decode prog_5_method_1_code 109 = .ok (.putfield 52, 3) := by decide +kernel
theorem d_td_init_112 : decode prog_5_method_1_code 112 = .ok (.aload_n 0, 1) := by decide +kernel
theorem d_td_init_113 : decode prog_5_method_1_code 113 = .ok (.bipush 64, 2) := by decide +kernel
theorem d_td_init_115 : decode prog_5_method_1_code 115 = .ok (.newarray .int, 2) := by decide +kernel
theorem d_td_init_117 : decode prog_5_method_1_code 117 = .ok (.putfield 55, 3) := by decide +kernel
theorem d_td_init_120 : decode prog_5_method_1_code 120 = .ok (.aload_n 0, 1) := by decide +kernel
theorem d_td_init_121 : decode prog_5_method_1_code 121 = .ok (.getfield 18, 3) := by decide +kernel
theorem d_td_init_124 : decode prog_5_method_1_code 124 = .ok (.ldc 58, 2) := by decide +kernel
theorem d_td_init_126 : decode prog_5_method_1_code 126 = .ok (.invokestatic 59, 3) := by decide +kernel
theorem d_td_init_129 : decode prog_5_method_1_code 129 = .ok (.aload_n 0, 1) := by decide +kernel
theorem d_td_init_130 : decode prog_5_method_1_code 130 = .ok (.getfield 28, 3) := by decide +kernel
theorem d_td_init_133 : decode prog_5_method_1_code 133 = .ok (.iconst (-1), 1) := by decide +kernel
theorem d_td_init_134 : decode prog_5_method_1_code 134 = .ok (.invokestatic 59, 3) := by decide +kernel
theorem d_td_init_137 : decode prog_5_method_1_code 137 = .ok (.aload_n 0, 1) := by decide +kernel
theorem d_td_init_138 : decode prog_5_method_1_code 138 = .ok (.getfield 55, 3) := by decide +kernel
theorem d_td_init_141 : decode prog_5_method_1_code 141 = .ok (.bipush 100, 2) := by decide +kernel
theorem d_td_init_143 : decode prog_5_method_1_code 143 = .ok (.invokestatic 59, 3) := by decide +kernel
theorem d_td_init_146 : decode prog_5_method_1_code 146 = .ok (.return_, 1) := by decide +kernel
theorem d_td_hasStop_0 : decode prog_5_method_2_code 0 = .ok (.iload_n 1, 1) := by decide +kernel
theorem d_td_hasStop_1 : decode prog_5_method_2_code 1 = .ok (.ifCond .lt 15, 3) := by decide +kernel
theorem d_td_hasStop_4 : decode prog_5_method_2_code 4 = .ok (.iload_n 1, 1) := by decide +kernel
theorem d_td_hasStop_5 : decode prog_5_method_2_code 5 = .ok (.aload_n 0, 1) := by decide +kernel
theorem d_td_hasStop_6 : decode prog_5_method_2_code 6 = .ok (.getfield 65, 3) := by decide +kernel
theorem d_td_hasStop_9 : decode prog_5_method_2_code 9 = .ok (.if_icmp .ge 7, 3) := by decide +kernel
theorem d_td_hasStop_12 : decode prog_5_method_2_code 12 = .ok (.iconst 1, 1) := by decide +kernel
theorem d_td_hasStop_13 : decode prog_5_method_2_code 13 = .ok (.goto 4, 3) := by decide +kernel
theorem d_td_hasStop_16 : decode prog_5_method_2_code 16 = .ok (.iconst 0, 1) := by decide +kernel
theorem d_td_hasStop_17 : decode prog_5_method_2_code 17 = .ok (.ireturn, 1) := by decide +kernel
theorem d_td_hasVehicle_0 : decode prog_5_method_3_code 0 = .ok (.iload_n 1, 1) := by decide +kernel
theorem d_td_hasVehicle_1 : decode prog_5_method_3_code 1 = .ok (.ifCond .lt 15, 3) := by decide +kernel
theorem d_td_hasVehicle_4 : decode prog_5_method_3_code 4 = .ok (.iload_n 1, 1) := by decide +kernel
theorem d_td_hasVehicle_5 : decode prog_5_method_3_code 5 = .ok (.aload_n 0, 1) := by decide +kernel
theorem d_td_hasVehicle_6 : decode prog_5_method_3_code 6 = .ok (.getfield 69, 3) := by decide +kernel
theorem d_td_hasVehicle_9 : decode prog_5_method_3_code 9 = .ok (.if_icmp .ge 7, 3) := by decide +kernel
theorem d_td_hasVehicle_12 : decode prog_5_method_3_code 12 = .ok (.iconst 1, 1) := by decide +kernel
theorem d_td_hasVehicle_13 : decode prog_5_method_3_code 13 = .ok (.goto 4, 3) := by decide +kernel
theorem d_td_hasVehicle_16 : decode prog_5_method_3_code 16 = .ok (.iconst 0, 1) := by decide +kernel
theorem d_td_hasVehicle_17 : decode prog_5_method_3_code 17 = .ok (.ireturn, 1) := by decide +kernel
theorem d_td_areTwoStops_0 : decode prog_5_method_4_code 0 = .ok (.aload_n 0, 1) := by decide +kernel
theorem d_td_areTwoStops_1 : decode prog_5_method_4_code 1 = .ok (.iload_n 1, 1) := by decide +kernel
theorem d_td_areTwoStops_2 : decode prog_5_method_4_code 2 = .ok (.invokevirtual 72, 3) := by decide +kernel
theorem d_td_areTwoStops_5 : decode prog_5_method_4_code 5 = .ok (.ifCond .eq 20, 3) := by decide +kernel
theorem d_td_areTwoStops_8 : decode prog_5_method_4_code 8 = .ok (.aload_n 0, 1) := by decide +kernel
theorem d_td_areTwoStops_9 : decode prog_5_method_4_code 9 = .ok (.iload_n 2, 1) := by decide +kernel
theorem d_td_areTwoStops_10 : decode prog_5_method_4_code 10 = .ok (.invokevirtual 72, 3) := by decide +kernel
theorem d_td_areTwoStops_13 : decode prog_5_method_4_code 13 = .ok (.ifCond .eq 12, 3) := by decide +kernel
theorem d_td_areTwoStops_16 : decode prog_5_method_4_code 16 = .ok (.iload_n 1, 1) := by decide +kernel
theorem d_td_areTwoStops_17 : decode prog_5_method_4_code 17 = .ok (.iload_n 2, 1) := by decide +kernel
theorem d_td_areTwoStops_18 : decode prog_5_method_4_code 18 = .ok (.if_icmp .eq 7, 3) := by decide +kernel
theorem d_td_areTwoStops_21 : decode prog_5_method_4_code 21 = .ok (.iconst 1, 1) := by decide +kernel
theorem d_td_areTwoStops_22 : decode prog_5_method_4_code 22 = .ok (.goto 4, 3) := by decide +kernel
theorem d_td_areTwoStops_25 : decode prog_5_method_4_code 25 = .ok (.iconst 0, 1) := by decide +kernel
theorem d_td_areTwoStops_26 : decode prog_5_method_4_code 26 = .ok (.ireturn, 1) := by decide +kernel
theorem d_td_addStop_0 : decode prog_5_method_5_code 0 = .ok (.aload_n 0, 1) := by decide +kernel
theorem d_td_addStop_1 : decode prog_5_method_5_code 1 = .ok (.getfield 9, 3) := by decide +kernel
theorem d_td_addStop_4 : decode prog_5_method_5_code 4 = .ok (.aload_n 0, 1) := by decide +kernel
theorem d_td_addStop_5 : decode prog_5_method_5_code 5 = .ok (.getfield 65, 3) := by decide +kernel
theorem d_td_addStop_8 : decode prog_5_method_5_code 8 = .ok (.iload_n 1, 1) := by decide +kernel
theorem d_td_addStop_9 : decode prog_5_method_5_code 9 = .ok (.iastore, 1) := by decide +kernel
theorem d_td_addStop_10 : decode prog_5_method_5_code 10 = .ok (.aload_n 0, 1) := by decide +kernel
theorem d_td_addStop_11 : decode prog_5_method_5_code 11 = .ok (.dup, 1) := by decide +kernel
theorem d_td_addStop_12 : decode prog_5_method_5_code 12 = .ok (.getfield 65, 3) := by decide +kernel
theorem d_td_addStop_15 : decode prog_5_method_5_code 15 = .ok (.iconst 1, 1) := by decide +kernel
theorem d_td_addStop_16 : decode prog_5_method_5_code 16 = .ok (.iadd, 1) := by decide +kernel
theorem d_td_addStop_17 : decode prog_5_method_5_code 17 = .ok (.putfield 65, 3) := by decide +kernel
theorem d_td_addStop_20 : decode prog_5_method_5_code 20 = .ok (.aload_n 0, 1) := by decide +kernel
theorem d_td_addStop_21 : decode prog_5_method_5_code 21 = .ok (.getfield 65, 3) := by decide +kernel
theorem d_td_addStop_24 : decode prog_5_method_5_code 24 = .ok (.iconst 1, 1) := by decide +kernel
theorem d_td_addStop_25 : decode prog_5_method_5_code 25 = .ok (.isub, 1) := by decide +kernel
theorem d_td_addStop_26 : decode prog_5_method_5_code 26 = .ok (.ireturn, 1) := by decide +kernel
theorem d_td_addVehicle_0 : decode prog_5_method_6_code 0 = .ok (.aload_n 0, 1) := by decide +kernel
theorem d_td_addVehicle_1 : decode prog_5_method_6_code 1 = .ok (.getfield 43, 3) := by decide +kernel
theorem d_td_addVehicle_4 : decode prog_5_method_6_code 4 = .ok (.aload_n 0, 1) := by decide +kernel
theorem d_td_addVehicle_5 : decode prog_5_method_6_code 5 = .ok (.getfield 69, 3) := by decide +kernel
theorem d_td_addVehicle_8 : decode prog_5_method_6_code 8 = .ok (.iload_n 1, 1) := by decide +kernel
theorem d_td_addVehicle_9 : decode prog_5_method_6_code 9 = .ok (.iastore, 1) := by decide +kernel
theorem d_td_addVehicle_10 : decode prog_5_method_6_code 10 = .ok (.aload_n 0, 1) := by decide +kernel
theorem d_td_addVehicle_11 : decode prog_5_method_6_code 11 = .ok (.getfield 46, 3) := by decide +kernel
theorem d_td_addVehicle_14 : decode prog_5_method_6_code 14 = .ok (.aload_n 0, 1) := by decide +kernel
theorem d_td_addVehicle_15 : decode prog_5_method_6_code 15 = .ok (.getfield 69, 3) := by decide +kernel
theorem d_td_addVehicle_18 : decode prog_5_method_6_code 18 = .ok (.iload_n 2, 1) := by decide +kernel
theorem d_td_addVehicle_19 : decode prog_5_method_6_code 19 = .ok (.iastore, 1) := by decide +kernel
theorem d_td_addVehicle_20 : decode prog_5_method_6_code 20 = .ok (.aload_n 0, 1) := by decide +kernel
theorem d_td_addVehicle_21 : decode prog_5_method_6_code 21 = .ok (.getfield 49, 3) := by decide +kernel
theorem d_td_addVehicle_24 : decode prog_5_method_6_code 24 = .ok (.aload_n 0, 1) := by decide +kernel
theorem d_td_addVehicle_25 : decode prog_5_method_6_code 25 = .ok (.getfield 69, 3) := by decide +kernel
theorem d_td_addVehicle_28 : decode prog_5_method_6_code 28 = .ok (.iload_n 3, 1) := by decide +kernel
theorem d_td_addVehicle_29 : decode prog_5_method_6_code 29 = .ok (.iastore, 1) := by decide +kernel
theorem d_td_addVehicle_30 : decode prog_5_method_6_code 30 = .ok (.aload_n 0, 1) := by decide +kernel
theorem d_td_addVehicle_31 : decode prog_5_method_6_code 31 = .ok (.getfield 52, 3) := by decide +kernel
theorem d_td_addVehicle_34 : decode prog_5_method_6_code 34 = .ok (.aload_n 0, 1) := by decide +kernel
theorem d_td_addVehicle_35 : decode prog_5_method_6_code 35 = .ok (.getfield 69, 3) := by decide +kernel
theorem d_td_addVehicle_38 : decode prog_5_method_6_code 38 = .ok (.iload 4, 2) := by decide +kernel
theorem d_td_addVehicle_40 : decode prog_5_method_6_code 40 = .ok (.iastore, 1) := by decide +kernel
theorem d_td_addVehicle_41 : decode prog_5_method_6_code 41 = .ok (.aload_n 0, 1) := by decide +kernel
theorem d_td_addVehicle_42 : decode prog_5_method_6_code 42 = .ok (.dup, 1) := by decide +kernel
theorem d_td_addVehicle_43 : decode prog_5_method_6_code 43 = .ok (.getfield 69, 3) := by decide +kernel
theorem d_td_addVehicle_46 : decode prog_5_method_6_code 46 = .ok (.iconst 1, 1) := by decide +kernel
theorem d_td_addVehicle_47 : decode prog_5_method_6_code 47 = .ok (.iadd, 1) := by decide +kernel
theorem d_td_addVehicle_48 : decode prog_5_method_6_code 48 = .ok (.putfield 69, 3) := by decide +kernel
theorem d_td_addVehicle_51 : decode prog_5_method_6_code 51 = .ok (.aload_n 0, 1) := by decide +kernel
theorem d_td_addVehicle_52 : decode prog_5_method_6_code 52 = .ok (.getfield 69, 3) := by decide +kernel
theorem d_td_addVehicle_55 : decode prog_5_method_6_code 55 = .ok (.iconst 1, 1) := by decide +kernel
theorem d_td_addVehicle_56 : decode prog_5_method_6_code 56 = .ok (.isub, 1) := by decide +kernel
theorem d_td_addVehicle_57 : decode prog_5_method_6_code 57 = .ok (.ireturn, 1) := by decide +kernel
theorem d_td_setApart_0 : decode prog_5_method_7_code 0 = .ok (.aload_n 0, 1) := by decide +kernel
theorem d_td_setApart_1 : decode prog_5_method_7_code 1 = .ok (.getfield 31, 3) := by decide +kernel
theorem d_td_setApart_4 : decode prog_5_method_7_code 4 = .ok (.iload_n 1, 1) := by decide +kernel
theorem d_td_setApart_5 : decode prog_5_method_7_code 5 = .ok (.iload_n 3, 1) := by decide +kernel
theorem d_td_setApart_6 : decode prog_5_method_7_code 6 = .ok (.ifCond .eq 16, 3) := by decide +kernel
theorem d_td_setApart_9 : decode prog_5_method_7_code 9 = .ok (.aload_n 0, 1) := by decide +kernel
theorem d_td_setApart_10 : decode prog_5_method_7_code 10 = .ok (.getfield 31, 3) := by decide +kernel
theorem d_td_setApart_13 : decode prog_5_method_7_code 13 = .ok (.iload_n 1, 1) := by decide +kernel
theorem d_td_setApart_14 : decode prog_5_method_7_code 14 = .ok (.iaload, 1) := by decide +kernel
theorem d_td_setApart_15 : decode prog_5_method_7_code 15 = .ok (.iload_n 2, 1) := by decide +kernel
theorem d_td_setApart_16 : decode prog_5_method_7_code 16 = .ok (.invokestatic 76, 3) := by decide +kernel
theorem d_td_setApart_19 : decode prog_5_method_7_code 19 = .ok (.goto 13, 3) := by decide +kernel
theorem d_td_setApart_22 : decode prog_5_method_7_code 22 = .ok (.aload_n 0, 1) := by decide +kernel
theorem d_td_setApart_23 : decode prog_5_method_7_code 23 = .ok (.getfield 31, 3) := by decide +kernel
theorem d_td_setApart_26 : decode prog_5_method_7_code 26 = .ok (.iload_n 1, 1) := by decide +kernel
theorem d_td_setApart_27 : decode prog_5_method_7_code 27 = .ok (.iaload, 1) := by decide +kernel
theorem d_td_setApart_28 : decode prog_5_method_7_code 28 = .ok (.iload_n 2, 1) := by decide +kernel
theorem d_td_setApart_29 : decode prog_5_method_7_code 29 = .ok (.invokestatic 80, 3) := by decide +kernel
theorem d_td_setApart_32 : decode prog_5_method_7_code 32 = .ok (.iastore, 1) := by decide +kernel
theorem d_td_setApart_33 : decode prog_5_method_7_code 33 = .ok (.aload_n 0, 1) := by decide +kernel
theorem d_td_setApart_34 : decode prog_5_method_7_code 34 = .ok (.getfield 31, 3) := by decide +kernel
theorem d_td_setApart_37 : decode prog_5_method_7_code 37 = .ok (.iload_n 2, 1) := by decide +kernel
theorem d_td_setApart_38 : decode prog_5_method_7_code 38 = .ok (.iload_n 3, 1) := by decide +kernel
theorem d_td_setApart_39 : decode prog_5_method_7_code 39 = .ok (.ifCond .eq 16, 3) := by decide +kernel
theorem d_td_setApart_42 : decode prog_5_method_7_code 42 = .ok (.aload_n 0, 1) := by decide +kernel
theorem d_td_setApart_43 : decode prog_5_method_7_code 43 = .ok (.getfield 31, 3) := by decide +kernel
theorem d_td_setApart_46 : decode prog_5_method_7_code 46 = .ok (.iload_n 2, 1) := by decide +kernel
theorem d_td_setApart_47 : decode prog_5_method_7_code 47 = .ok (.iaload, 1) := by decide +kernel
theorem d_td_setApart_48 : decode prog_5_method_7_code 48 = .ok (.iload_n 1, 1) := by decide +kernel
theorem d_td_setApart_49 : decode prog_5_method_7_code 49 = .ok (.invokestatic 76, 3) := by decide +kernel
theorem d_td_setApart_52 : decode prog_5_method_7_code 52 = .ok (.goto 13, 3) := by decide +kernel
theorem d_td_setApart_55 : decode prog_5_method_7_code 55 = .ok (.aload_n 0, 1) := by decide +kernel
theorem d_td_setApart_56 : decode prog_5_method_7_code 56 = .ok (.getfield 31, 3) := by decide +kernel
theorem d_td_setApart_59 : decode prog_5_method_7_code 59 = .ok (.iload_n 2, 1) := by decide +kernel
theorem d_td_setApart_60 : decode prog_5_method_7_code 60 = .ok (.iaload, 1) := by decide +kernel
theorem d_td_setApart_61 : decode prog_5_method_7_code 61 = .ok (.iload_n 1, 1) := by decide +kernel
theorem d_td_setApart_62 : decode prog_5_method_7_code 62 = .ok (.invokestatic 80, 3) := by decide +kernel
theorem d_td_setApart_65 : decode prog_5_method_7_code 65 = .ok (.iastore, 1) := by decide +kernel
theorem d_td_setApart_66 : decode prog_5_method_7_code 66 = .ok (.return_, 1) := by decide +kernel
theorem d_td_setBefore_0 : decode prog_5_method_8_code 0 = .ok (.aload_n 0, 1) := by decide +kernel
theorem d_td_setBefore_1 : decode prog_5_method_8_code 1 = .ok (.getfield 37, 3) := by decide +kernel
theorem d_td_setBefore_4 : decode prog_5_method_8_code 4 = .ok (.iload_n 1, 1) := by decide +kernel
theorem d_td_setBefore_5 : decode prog_5_method_8_code 5 = .ok (.aload_n 0, 1) := by decide +kernel
theorem d_td_setBefore_6 : decode prog_5_method_8_code 6 = .ok (.getfield 37, 3) := by decide +kernel
theorem d_td_setBefore_9 : decode prog_5_method_8_code 9 = .ok (.iload_n 1, 1) := by decide +kernel
theorem d_td_setBefore_10 : decode prog_5_method_8_code 10 = .ok (.iaload, 1) := by decide +kernel
theorem d_td_setBefore_11 : decode prog_5_method_8_code 11 = .ok (.iload_n 2, 1) := by decide +kernel
theorem d_td_setBefore_12 : decode prog_5_method_8_code 12 = .ok (.invokestatic 76, 3) := by decide +kernel
theorem d_td_setBefore_15 : decode prog_5_method_8_code 15 = .ok (.iastore, 1) := by decide +kernel
theorem d_td_setBefore_16 : decode prog_5_method_8_code 16 = .ok (.aload_n 0, 1) := by decide +kernel
theorem d_td_setBefore_17 : decode prog_5_method_8_code 17 = .ok (.getfield 34, 3) := by decide +kernel
theorem d_td_setBefore_20 : decode prog_5_method_8_code 20 = .ok (.iload_n 2, 1) := by decide +kernel
theorem d_td_setBefore_21 : decode prog_5_method_8_code 21 = .ok (.aload_n 0, 1) := by decide +kernel
theorem d_td_setBefore_22 : decode prog_5_method_8_code 22 = .ok (.getfield 34, 3) := by decide +kernel
theorem d_td_setBefore_25 : decode prog_5_method_8_code 25 = .ok (.iload_n 2, 1) := by decide +kernel
theorem d_td_setBefore_26 : decode prog_5_method_8_code 26 = .ok (.iaload, 1) := by decide +kernel
theorem d_td_setBefore_27 : decode prog_5_method_8_code 27 = .ok (.iload_n 1, 1) := by decide +kernel
theorem d_td_setBefore_28 : decode prog_5_method_8_code 28 = .ok (.invokestatic 76, 3) := by decide +kernel
theorem d_td_setBefore_31 : decode prog_5_method_8_code 31 = .ok (.iastore, 1) := by decide +kernel
theorem d_td_setBefore_32 : decode prog_5_method_8_code 32 = .ok (.aload_n 0, 1) := by decide +kernel
theorem d_td_setBefore_33 : decode prog_5_method_8_code 33 = .ok (.getfield 40, 3) := by decide +kernel
theorem d_td_setBefore_36 : decode prog_5_method_8_code 36 = .ok (.iload_n 2, 1) := by decide +kernel
theorem d_td_setBefore_37 : decode prog_5_method_8_code 37 = .ok (.iaload, 1) := by decide +kernel
theorem d_td_setBefore_38 : decode prog_5_method_8_code 38 = .ok (.iload_n 2, 1) := by decide +kernel
theorem d_td_setBefore_39 : decode prog_5_method_8_code 39 = .ok (.invokestatic 76, 3) := by decide +kernel
theorem d_td_setBefore_42 : decode prog_5_method_8_code 42 = .ok (.istore_n 3, 1) := by decide +kernel
theorem d_td_setBefore_43 : decode prog_5_method_8_code 43 = .ok (.iconst 0, 1) := by decide +kernel
theorem d_td_setBefore_44 : decode prog_5_method_8_code 44 = .ok (.istore 4, 2) := by decide +kernel
theorem d_td_setBefore_46 : decode prog_5_method_8_code 46 = .ok (.iload 4, 2) := by decide +kernel
theorem d_td_setBefore_48 : decode prog_5_method_8_code 48 = .ok (.aload_n 0, 1) := by decide +kernel
theorem d_td_setBefore_49 : decode prog_5_method_8_code 49 = .ok (.getfield 65, 3) := by decide +kernel
theorem d_td_setBefore_52 : decode prog_5_method_8_code 52 = .ok (.if_icmp .ge 40, 3) := by decide +kernel
theorem d_td_setBefore_55 : decode prog_5_method_8_code 55 = .ok (.iload 4, 2) := by decide +kernel
theorem d_td_setBefore_57 : decode prog_5_method_8_code 57 = .ok (.iload_n 1, 1) := by decide +kernel
theorem d_td_setBefore_58 : decode prog_5_method_8_code 58 = .ok (.if_icmp .eq 17, 3) := by decide +kernel
theorem d_td_setBefore_61 : decode prog_5_method_8_code 61 = .ok (.aload_n 0, 1) := by decide +kernel
theorem d_td_setBefore_62 : decode prog_5_method_8_code 62 = .ok (.getfield 40, 3) := by decide +kernel
theorem d_td_setBefore_65 : decode prog_5_method_8_code 65 = .ok (.iload 4, 2) := by decide +kernel
theorem d_td_setBefore_67 : decode prog_5_method_8_code 67 = .ok (.iaload, 1) := by decide +kernel
theorem d_td_setBefore_68 : decode prog_5_method_8_code 68 = .ok (.iload_n 1, 1) := by decide +kernel
theorem d_td_setBefore_69 : decode prog_5_method_8_code 69 = .ok (.invokestatic 83, 3) := by decide +kernel
theorem d_td_setBefore_72 : decode prog_5_method_8_code 72 = .ok (.ifCond .eq 14, 3) := by decide +kernel
theorem d_td_setBefore_75 : decode prog_5_method_8_code 75 = .ok (.aload_n 0, 1) := by decide +kernel
theorem d_td_setBefore_76 : decode prog_5_method_8_code 76 = .ok (.getfield 40, 3) := by decide +kernel
theorem d_td_setBefore_79 : decode prog_5_method_8_code 79 = .ok (.iload 4, 2) := by decide +kernel
theorem d_td_setBefore_81 : decode prog_5_method_8_code 81 = .ok (.dup2, 1) := by decide +kernel
theorem d_td_setBefore_82 : decode prog_5_method_8_code 82 = .ok (.iaload, 1) := by decide +kernel
theorem d_td_setBefore_83 : decode prog_5_method_8_code 83 = .ok (.iload_n 3, 1) := by decide +kernel
theorem d_td_setBefore_84 : decode prog_5_method_8_code 84 = .ok (.ior, 1) := by decide +kernel
theorem d_td_setBefore_85 : decode prog_5_method_8_code 85 = .ok (.iastore, 1) := by decide +kernel
theorem d_td_setBefore_86 : decode prog_5_method_8_code 86 = .ok (.iinc 4 1, 3) := by decide +kernel
theorem d_td_setBefore_89 : decode prog_5_method_8_code 89 = .ok (.goto (-43), 3) := by decide +kernel
theorem d_td_setBefore_92 : decode prog_5_method_8_code 92 = .ok (.return_, 1) := by decide +kernel
theorem d_td_seconds_0 : decode prog_5_method_9_code 0 = .ok (.aload_n 0, 1) := by decide +kernel
theorem d_td_seconds_1 : decode prog_5_method_9_code 1 = .ok (.getfield 55, 3) := by decide +kernel
theorem d_td_seconds_4 : decode prog_5_method_9_code 4 = .ok (.iload_n 1, 1) := by decide +kernel
theorem d_td_seconds_5 : decode prog_5_method_9_code 5 = .ok (.bipush 8, 2) := by decide +kernel
theorem d_td_seconds_7 : decode prog_5_method_9_code 7 = .ok (.imul, 1) := by decide +kernel
theorem d_td_seconds_8 : decode prog_5_method_9_code 8 = .ok (.iload_n 2, 1) := by decide +kernel
theorem d_td_seconds_9 : decode prog_5_method_9_code 9 = .ok (.iadd, 1) := by decide +kernel
theorem d_td_seconds_10 : decode prog_5_method_9_code 10 = .ok (.iaload, 1) := by decide +kernel
theorem d_td_seconds_11 : decode prog_5_method_9_code 11 = .ok (.ireturn, 1) := by decide +kernel
theorem d_lw_law_0 : decode code 0 = .ok (.new 7, 3) := by decide +kernel
theorem d_lw_law_3 : decode code 3 = .ok (.dup, 1) := by decide +kernel
theorem d_lw_law_4 : decode code 4 = .ok (.invokespecial 9, 3) := by decide +kernel
theorem d_lw_law_7 : decode code 7 = .ok (.astore_n 1, 1) := by decide +kernel
theorem d_lw_law_8 : decode code 8 = .ok (.new 10, 3) := by decide +kernel
theorem d_lw_law_11 : decode code 11 = .ok (.dup, 1) := by decide +kernel
theorem d_lw_law_12 : decode code 12 = .ok (.invokespecial 12, 3) := by decide +kernel
theorem d_lw_law_15 : decode code 15 = .ok (.astore_n 2, 1) := by decide +kernel
theorem d_lw_law_16 : decode code 16 = .ok (.iconst 0, 1) := by decide +kernel
theorem d_lw_law_17 : decode code 17 = .ok (.istore_n 3, 1) := by decide +kernel
theorem d_lw_law_18 : decode code 18 = .ok (.iload_n 3, 1) := by decide +kernel
theorem d_lw_law_19 : decode code 19 = .ok (.aload_n 0, 1) := by decide +kernel
theorem d_lw_law_20 : decode code 20 = .ok (.arraylength, 1) := by decide +kernel
theorem d_lw_law_21 : decode code 21 = .ok (.iconst 5, 1) := by decide +kernel
theorem d_lw_law_22 : decode code 22 = .ok (.isub, 1) := by decide +kernel
theorem d_lw_law_23 : decode code 23 = .ok (.if_icmp .gt 604, 3) := by decide +kernel
theorem d_lw_law_26 : decode code 26 = .ok (.aload_n 0, 1) := by decide +kernel
theorem d_lw_law_27 : decode code 27 = .ok (.iload_n 3, 1) := by decide +kernel
theorem d_lw_law_28 : decode code 28 = .ok (.iaload, 1) := by decide +kernel
theorem d_lw_law_29 : decode code 29 = .ok (.bipush 15, 2) := by decide +kernel
theorem d_lw_law_31 : decode code 31 = .ok (.iand, 1) := by decide +kernel
theorem d_lw_law_32 : decode code 32 = .ok (.tableswitch 589 0 14 #[76, 99, 152, 215, 268, 311, 344, 403, 436, 449, 463, 486, 519, 542, 565], 76) := by decide +kernel
theorem d_lw_law_108 : decode code 108 = .ok (.aload_n 1, 1) := by decide +kernel
theorem d_lw_law_109 : decode code 109 = .ok (.aload_n 0, 1) := by decide +kernel
theorem d_lw_law_110 : decode code 110 = .ok (.iload_n 3, 1) := by decide +kernel
theorem d_lw_law_111 : decode code 111 = .ok (.iconst 1, 1) := by decide +kernel
theorem d_lw_law_112 : decode code 112 = .ok (.iadd, 1) := by decide +kernel
theorem d_lw_law_113 : decode code 113 = .ok (.iaload, 1) := by decide +kernel
theorem d_lw_law_114 : decode code 114 = .ok (.invokevirtual 13, 3) := by decide +kernel
theorem d_lw_law_117 : decode code 117 = .ok (.aload_n 2, 1) := by decide +kernel
theorem d_lw_law_118 : decode code 118 = .ok (.aload_n 0, 1) := by decide +kernel
theorem d_lw_law_119 : decode code 119 = .ok (.iload_n 3, 1) := by decide +kernel
theorem d_lw_law_120 : decode code 120 = .ok (.iconst 1, 1) := by decide +kernel
theorem d_lw_law_121 : decode code 121 = .ok (.iadd, 1) := by decide +kernel
theorem d_lw_law_122 : decode code 122 = .ok (.iaload, 1) := by decide +kernel
theorem d_lw_law_123 : decode code 123 = .ok (.invokevirtual 17, 3) := by decide +kernel
theorem d_lw_law_126 : decode code 126 = .ok (.if_icmp .eq 495, 3) := by decide +kernel
theorem d_lw_law_129 : decode code 129 = .ok (.iconst 0, 1) := by decide +kernel
theorem d_lw_law_130 : decode code 130 = .ok (.ireturn, 1) := by decide +kernel
theorem d_lw_law_131 : decode code 131 = .ok (.aload_n 1, 1) := by decide +kernel
theorem d_lw_law_132 : decode code 132 = .ok (.aload_n 0, 1) := by decide +kernel
theorem d_lw_law_133 : decode code 133 = .ok (.iload_n 3, 1) := by decide +kernel
theorem d_lw_law_134 : decode code 134 = .ok (.iconst 1, 1) := by decide +kernel
theorem d_lw_law_135 : decode code 135 = .ok (.iadd, 1) := by decide +kernel
theorem d_lw_law_136 : decode code 136 = .ok (.iaload, 1) := by decide +kernel
theorem d_lw_law_137 : decode code 137 = .ok (.aload_n 0, 1) := by decide +kernel
theorem d_lw_law_138 : decode code 138 = .ok (.iload_n 3, 1) := by decide +kernel
theorem d_lw_law_139 : decode code 139 = .ok (.iconst 2, 1) := by decide +kernel
theorem d_lw_law_140 : decode code 140 = .ok (.iadd, 1) := by decide +kernel
theorem d_lw_law_141 : decode code 141 = .ok (.iaload, 1) := by decide +kernel
theorem d_lw_law_142 : decode code 142 = .ok (.aload_n 0, 1) := by decide +kernel
theorem d_lw_law_143 : decode code 143 = .ok (.iload_n 3, 1) := by decide +kernel
theorem d_lw_law_144 : decode code 144 = .ok (.iconst 3, 1) := by decide +kernel
theorem d_lw_law_145 : decode code 145 = .ok (.iadd, 1) := by decide +kernel
theorem d_lw_law_146 : decode code 146 = .ok (.iaload, 1) := by decide +kernel
theorem d_lw_law_147 : decode code 147 = .ok (.aload_n 0, 1) := by decide +kernel
theorem d_lw_law_148 : decode code 148 = .ok (.iload_n 3, 1) := by decide +kernel
theorem d_lw_law_149 : decode code 149 = .ok (.iconst 4, 1) := by decide +kernel
theorem d_lw_law_150 : decode code 150 = .ok (.iadd, 1) := by decide +kernel
theorem d_lw_law_151 : decode code 151 = .ok (.iaload, 1) := by decide +kernel
theorem d_lw_law_152 : decode code 152 = .ok (.invokevirtual 18, 3) := by decide +kernel
theorem d_lw_law_155 : decode code 155 = .ok (.aload_n 2, 1) := by decide +kernel
theorem d_lw_law_156 : decode code 156 = .ok (.aload_n 0, 1) := by decide +kernel
theorem d_lw_law_157 : decode code 157 = .ok (.iload_n 3, 1) := by decide +kernel
theorem d_lw_law_158 : decode code 158 = .ok (.iconst 1, 1) := by decide +kernel
theorem d_lw_law_159 : decode code 159 = .ok (.iadd, 1) := by decide +kernel
theorem d_lw_law_160 : decode code 160 = .ok (.iaload, 1) := by decide +kernel
theorem d_lw_law_161 : decode code 161 = .ok (.aload_n 0, 1) := by decide +kernel
theorem d_lw_law_162 : decode code 162 = .ok (.iload_n 3, 1) := by decide +kernel
theorem d_lw_law_163 : decode code 163 = .ok (.iconst 2, 1) := by decide +kernel
theorem d_lw_law_164 : decode code 164 = .ok (.iadd, 1) := by decide +kernel
theorem d_lw_law_165 : decode code 165 = .ok (.iaload, 1) := by decide +kernel
theorem d_lw_law_166 : decode code 166 = .ok (.aload_n 0, 1) := by decide +kernel
theorem d_lw_law_167 : decode code 167 = .ok (.iload_n 3, 1) := by decide +kernel
theorem d_lw_law_168 : decode code 168 = .ok (.iconst 3, 1) := by decide +kernel
theorem d_lw_law_169 : decode code 169 = .ok (.iadd, 1) := by decide +kernel
theorem d_lw_law_170 : decode code 170 = .ok (.iaload, 1) := by decide +kernel
theorem d_lw_law_171 : decode code 171 = .ok (.aload_n 0, 1) := by decide +kernel
theorem d_lw_law_172 : decode code 172 = .ok (.iload_n 3, 1) := by decide +kernel
theorem d_lw_law_173 : decode code 173 = .ok (.iconst 4, 1) := by decide +kernel
theorem d_lw_law_174 : decode code 174 = .ok (.iadd, 1) := by decide +kernel
theorem d_lw_law_175 : decode code 175 = .ok (.iaload, 1) := by decide +kernel
theorem d_lw_law_176 : decode code 176 = .ok (.invokevirtual 22, 3) := by decide +kernel
theorem d_lw_law_179 : decode code 179 = .ok (.if_icmp .eq 442, 3) := by decide +kernel
theorem d_lw_law_182 : decode code 182 = .ok (.iconst 0, 1) := by decide +kernel
theorem d_lw_law_183 : decode code 183 = .ok (.ireturn, 1) := by decide +kernel
theorem d_lw_law_184 : decode code 184 = .ok (.aload_n 1, 1) := by decide +kernel
theorem d_lw_law_185 : decode code 185 = .ok (.aload_n 0, 1) := by decide +kernel
theorem d_lw_law_186 : decode code 186 = .ok (.iload_n 3, 1) := by decide +kernel
theorem d_lw_law_187 : decode code 187 = .ok (.iconst 1, 1) := by decide +kernel
theorem d_lw_law_188 : decode code 188 = .ok (.iadd, 1) := by decide +kernel
theorem d_lw_law_189 : decode code 189 = .ok (.iaload, 1) := by decide +kernel
theorem d_lw_law_190 : decode code 190 = .ok (.aload_n 0, 1) := by decide +kernel
theorem d_lw_law_191 : decode code 191 = .ok (.iload_n 3, 1) := by decide +kernel
theorem d_lw_law_192 : decode code 192 = .ok (.iconst 2, 1) := by decide +kernel
theorem d_lw_law_193 : decode code 193 = .ok (.iadd, 1) := by decide +kernel
end
section
theorem d_lw_law_194 : decode code 194 = .ok (.iaload, 1) := by decide +kernel
theorem d_lw_law_195 : decode code 195 = .ok (.i2l, 1) := by decide +kernel
theorem d_lw_law_196 : decode code 196 = .ok (.bipush 32, 2) := by decide +kernel
theorem d_lw_law_198 : decode code 198 = .ok (.lshl, 1) := by decide +kernel
theorem d_lw_law_199 : decode code 199 = .ok (.aload_n 0, 1) := by decide +kernel
theorem d_lw_law_200 : decode code 200 = .ok (.iload_n 3, 1) := by decide +kernel
theorem d_lw_law_201 : decode code 201 = .ok (.iconst 3, 1) := by decide +kernel
theorem d_lw_law_202 : decode code 202 = .ok (.iadd, 1) := by decide +kernel
theorem d_lw_law_203 : decode code 203 = .ok (.iaload, 1) := by decide +kernel
theorem d_lw_law_204 : decode code 204 = .ok (.i2l, 1) := by decide +kernel
theorem d_lw_law_205 : decode code 205 = .ok (.ldc2_w 23, 3) := by decide +kernel
theorem d_lw_law_208 : decode code 208 = .ok (.land, 1) := by decide +kernel
theorem d_lw_law_209 : decode code 209 = .ok (.lor, 1) := by decide +kernel
theorem d_lw_law_210 : decode code 210 = .ok (.invokevirtual 25, 3) := by decide +kernel
theorem d_lw_law_213 : decode code 213 = .ok (.aload_n 2, 1) := by decide +kernel
theorem d_lw_law_214 : decode code 214 = .ok (.aload_n 0, 1) := by decide +kernel
theorem d_lw_law_215 : decode code 215 = .ok (.iload_n 3, 1) := by decide +kernel
theorem d_lw_law_216 : decode code 216 = .ok (.iconst 1, 1) := by decide +kernel
theorem d_lw_law_217 : decode code 217 = .ok (.iadd, 1) := by decide +kernel
theorem d_lw_law_218 : decode code 218 = .ok (.iaload, 1) := by decide +kernel
theorem d_lw_law_219 : decode code 219 = .ok (.aload_n 0, 1) := by decide +kernel
theorem d_lw_law_220 : decode code 220 = .ok (.iload_n 3, 1) := by decide +kernel
theorem d_lw_law_221 : decode code 221 = .ok (.iconst 2, 1) := by decide +kernel
theorem d_lw_law_222 : decode code 222 = .ok (.iadd, 1) := by decide +kernel
theorem d_lw_law_223 : decode code 223 = .ok (.iaload, 1) := by decide +kernel
theorem d_lw_law_224 : decode code 224 = .ok (.i2l, 1) := by decide +kernel
theorem d_lw_law_225 : decode code 225 = .ok (.bipush 32, 2) := by decide +kernel
theorem d_lw_law_227 : decode code 227 = .ok (.lshl, 1) := by decide +kernel
theorem d_lw_law_228 : decode code 228 = .ok (.aload_n 0, 1) := by decide +kernel
theorem d_lw_law_229 : decode code 229 = .ok (.iload_n 3, 1) := by decide +kernel
theorem d_lw_law_230 : decode code 230 = .ok (.iconst 3, 1) := by decide +kernel
theorem d_lw_law_231 : decode code 231 = .ok (.iadd, 1) := by decide +kernel
theorem d_lw_law_232 : decode code 232 = .ok (.iaload, 1) := by decide +kernel
theorem d_lw_law_233 : decode code 233 = .ok (.i2l, 1) := by decide +kernel
theorem d_lw_law_234 : decode code 234 = .ok (.ldc2_w 23, 3) := by decide +kernel
theorem d_lw_law_237 : decode code 237 = .ok (.land, 1) := by decide +kernel
theorem d_lw_law_238 : decode code 238 = .ok (.lor, 1) := by decide +kernel
theorem d_lw_law_239 : decode code 239 = .ok (.invokevirtual 29, 3) := by decide +kernel
theorem d_lw_law_242 : decode code 242 = .ok (.if_icmp .eq 379, 3) := by decide +kernel
theorem d_lw_law_245 : decode code 245 = .ok (.iconst 0, 1) := by decide +kernel
theorem d_lw_law_246 : decode code 246 = .ok (.ireturn, 1) := by decide +kernel
theorem d_lw_law_247 : decode code 247 = .ok (.aload_n 1, 1) := by decide +kernel
theorem d_lw_law_248 : decode code 248 = .ok (.aload_n 0, 1) := by decide +kernel
theorem d_lw_law_249 : decode code 249 = .ok (.iload_n 3, 1) := by decide +kernel
theorem d_lw_law_250 : decode code 250 = .ok (.iconst 1, 1) := by decide +kernel
theorem d_lw_law_251 : decode code 251 = .ok (.iadd, 1) := by decide +kernel
theorem d_lw_law_252 : decode code 252 = .ok (.iaload, 1) := by decide +kernel
theorem d_lw_law_253 : decode code 253 = .ok (.aload_n 0, 1) := by decide +kernel
theorem d_lw_law_254 : decode code 254 = .ok (.iload_n 3, 1) := by decide +kernel
theorem d_lw_law_255 : decode code 255 = .ok (.iconst 2, 1) := by decide +kernel
theorem d_lw_law_256 : decode code 256 = .ok (.iadd, 1) := by decide +kernel
theorem d_lw_law_257 : decode code 257 = .ok (.iaload, 1) := by decide +kernel
theorem d_lw_law_258 : decode code 258 = .ok (.aload_n 0, 1) := by decide +kernel
theorem d_lw_law_259 : decode code 259 = .ok (.iload_n 3, 1) := by decide +kernel
theorem d_lw_law_260 : decode code 260 = .ok (.iconst 3, 1) := by decide +kernel
theorem d_lw_law_261 : decode code 261 = .ok (.iadd, 1) := by decide +kernel
theorem d_lw_law_262 : decode code 262 = .ok (.iaload, 1) := by decide +kernel
theorem d_lw_law_263 : decode code 263 = .ok (.aload_n 0, 1) := by decide +kernel
theorem d_lw_law_264 : decode code 264 = .ok (.iload_n 3, 1) := by decide +kernel
theorem d_lw_law_265 : decode code 265 = .ok (.iconst 4, 1) := by decide +kernel
theorem d_lw_law_266 : decode code 266 = .ok (.iadd, 1) := by decide +kernel
theorem d_lw_law_267 : decode code 267 = .ok (.iaload, 1) := by decide +kernel
theorem d_lw_law_268 : decode code 268 = .ok (.invokevirtual 30, 3) := by decide +kernel
theorem d_lw_law_271 : decode code 271 = .ok (.aload_n 2, 1) := by decide +kernel
theorem d_lw_law_272 : decode code 272 = .ok (.aload_n 0, 1) := by decide +kernel
theorem d_lw_law_273 : decode code 273 = .ok (.iload_n 3, 1) := by decide +kernel
theorem d_lw_law_274 : decode code 274 = .ok (.iconst 1, 1) := by decide +kernel
theorem d_lw_law_275 : decode code 275 = .ok (.iadd, 1) := by decide +kernel
theorem d_lw_law_276 : decode code 276 = .ok (.iaload, 1) := by decide +kernel
theorem d_lw_law_277 : decode code 277 = .ok (.aload_n 0, 1) := by decide +kernel
theorem d_lw_law_278 : decode code 278 = .ok (.iload_n 3, 1) := by decide +kernel
theorem d_lw_law_279 : decode code 279 = .ok (.iconst 2, 1) := by decide +kernel
theorem d_lw_law_280 : decode code 280 = .ok (.iadd, 1) := by decide +kernel
theorem d_lw_law_281 : decode code 281 = .ok (.iaload, 1) := by decide +kernel
theorem d_lw_law_282 : decode code 282 = .ok (.aload_n 0, 1) := by decide +kernel
theorem d_lw_law_283 : decode code 283 = .ok (.iload_n 3, 1) := by decide +kernel
theorem d_lw_law_284 : decode code 284 = .ok (.iconst 3, 1) := by decide +kernel
theorem d_lw_law_285 : decode code 285 = .ok (.iadd, 1) := by decide +kernel
theorem d_lw_law_286 : decode code 286 = .ok (.iaload, 1) := by decide +kernel
theorem d_lw_law_287 : decode code 287 = .ok (.aload_n 0, 1) := by decide +kernel
theorem d_lw_law_288 : decode code 288 = .ok (.iload_n 3, 1) := by decide +kernel
theorem d_lw_law_289 : decode code 289 = .ok (.iconst 4, 1) := by decide +kernel
theorem d_lw_law_290 : decode code 290 = .ok (.iadd, 1) := by decide +kernel
theorem d_lw_law_291 : decode code 291 = .ok (.iaload, 1) := by decide +kernel
theorem d_lw_law_292 : decode code 292 = .ok (.invokevirtual 34, 3) := by decide +kernel
theorem d_lw_law_295 : decode code 295 = .ok (.if_icmp .eq 326, 3) := by decide +kernel
theorem d_lw_law_298 : decode code 298 = .ok (.iconst 0, 1) := by decide +kernel
theorem d_lw_law_299 : decode code 299 = .ok (.ireturn, 1) := by decide +kernel
theorem d_lw_law_300 : decode code 300 = .ok (.aload_n 1, 1) := by decide +kernel
theorem d_lw_law_301 : decode code 301 = .ok (.aload_n 0, 1) := by decide +kernel
theorem d_lw_law_302 : decode code 302 = .ok (.iload_n 3, 1) := by decide +kernel
theorem d_lw_law_303 : decode code 303 = .ok (.iconst 1, 1) := by decide +kernel
theorem d_lw_law_304 : decode code 304 = .ok (.iadd, 1) := by decide +kernel
theorem d_lw_law_305 : decode code 305 = .ok (.iaload, 1) := by decide +kernel
theorem d_lw_law_306 : decode code 306 = .ok (.aload_n 0, 1) := by decide +kernel
theorem d_lw_law_307 : decode code 307 = .ok (.iload_n 3, 1) := by decide +kernel
theorem d_lw_law_308 : decode code 308 = .ok (.iconst 2, 1) := by decide +kernel
theorem d_lw_law_309 : decode code 309 = .ok (.iadd, 1) := by decide +kernel
theorem d_lw_law_310 : decode code 310 = .ok (.iaload, 1) := by decide +kernel
theorem d_lw_law_311 : decode code 311 = .ok (.aload_n 0, 1) := by decide +kernel
theorem d_lw_law_312 : decode code 312 = .ok (.iload_n 3, 1) := by decide +kernel
theorem d_lw_law_313 : decode code 313 = .ok (.iconst 3, 1) := by decide +kernel
theorem d_lw_law_314 : decode code 314 = .ok (.iadd, 1) := by decide +kernel
theorem d_lw_law_315 : decode code 315 = .ok (.iaload, 1) := by decide +kernel
theorem d_lw_law_316 : decode code 316 = .ok (.invokevirtual 35, 3) := by decide +kernel
theorem d_lw_law_319 : decode code 319 = .ok (.aload_n 2, 1) := by decide +kernel
theorem d_lw_law_320 : decode code 320 = .ok (.aload_n 0, 1) := by decide +kernel
theorem d_lw_law_321 : decode code 321 = .ok (.iload_n 3, 1) := by decide +kernel
theorem d_lw_law_322 : decode code 322 = .ok (.iconst 1, 1) := by decide +kernel
theorem d_lw_law_323 : decode code 323 = .ok (.iadd, 1) := by decide +kernel
theorem d_lw_law_324 : decode code 324 = .ok (.iaload, 1) := by decide +kernel
theorem d_lw_law_325 : decode code 325 = .ok (.aload_n 0, 1) := by decide +kernel
theorem d_lw_law_326 : decode code 326 = .ok (.iload_n 3, 1) := by decide +kernel
theorem d_lw_law_327 : decode code 327 = .ok (.iconst 2, 1) := by decide +kernel
theorem d_lw_law_328 : decode code 328 = .ok (.iadd, 1) := by decide +kernel
theorem d_lw_law_329 : decode code 329 = .ok (.iaload, 1) := by decide +kernel
theorem d_lw_law_330 : decode code 330 = .ok (.aload_n 0, 1) := by decide +kernel
theorem d_lw_law_331 : decode code 331 = .ok (.iload_n 3, 1) := by decide +kernel
theorem d_lw_law_332 : decode code 332 = .ok (.iconst 3, 1) := by decide +kernel
theorem d_lw_law_333 : decode code 333 = .ok (.iadd, 1) := by decide +kernel
theorem d_lw_law_334 : decode code 334 = .ok (.iaload, 1) := by decide +kernel
theorem d_lw_law_335 : decode code 335 = .ok (.invokevirtual 39, 3) := by decide +kernel
theorem d_lw_law_338 : decode code 338 = .ok (.if_icmp .eq 283, 3) := by decide +kernel
theorem d_lw_law_341 : decode code 341 = .ok (.iconst 0, 1) := by decide +kernel
theorem d_lw_law_342 : decode code 342 = .ok (.ireturn, 1) := by decide +kernel
theorem d_lw_law_343 : decode code 343 = .ok (.aload_n 1, 1) := by decide +kernel
theorem d_lw_law_344 : decode code 344 = .ok (.aload_n 0, 1) := by decide +kernel
theorem d_lw_law_345 : decode code 345 = .ok (.iload_n 3, 1) := by decide +kernel
theorem d_lw_law_346 : decode code 346 = .ok (.iconst 1, 1) := by decide +kernel
theorem d_lw_law_347 : decode code 347 = .ok (.iadd, 1) := by decide +kernel
theorem d_lw_law_348 : decode code 348 = .ok (.iaload, 1) := by decide +kernel
theorem d_lw_law_349 : decode code 349 = .ok (.aload_n 0, 1) := by decide +kernel
theorem d_lw_law_350 : decode code 350 = .ok (.iload_n 3, 1) := by decide +kernel
theorem d_lw_law_351 : decode code 351 = .ok (.iconst 2, 1) := by decide +kernel
theorem d_lw_law_352 : decode code 352 = .ok (.iadd, 1) := by decide +kernel
theorem d_lw_law_353 : decode code 353 = .ok (.iaload, 1) := by decide +kernel
theorem d_lw_law_354 : decode code 354 = .ok (.invokevirtual 40, 3) := by decide +kernel
theorem d_lw_law_357 : decode code 357 = .ok (.aload_n 2, 1) := by decide +kernel
theorem d_lw_law_358 : decode code 358 = .ok (.aload_n 0, 1) := by decide +kernel
theorem d_lw_law_359 : decode code 359 = .ok (.iload_n 3, 1) := by decide +kernel
theorem d_lw_law_360 : decode code 360 = .ok (.iconst 1, 1) := by decide +kernel
theorem d_lw_law_361 : decode code 361 = .ok (.iadd, 1) := by decide +kernel
theorem d_lw_law_362 : decode code 362 = .ok (.iaload, 1) := by decide +kernel
theorem d_lw_law_363 : decode code 363 = .ok (.aload_n 0, 1) := by decide +kernel
theorem d_lw_law_364 : decode code 364 = .ok (.iload_n 3, 1) := by decide +kernel
theorem d_lw_law_365 : decode code 365 = .ok (.iconst 2, 1) := by decide +kernel
theorem d_lw_law_366 : decode code 366 = .ok (.iadd, 1) := by decide +kernel
theorem d_lw_law_367 : decode code 367 = .ok (.iaload, 1) := by decide +kernel
theorem d_lw_law_368 : decode code 368 = .ok (.invokevirtual 44, 3) := by decide +kernel
theorem d_lw_law_371 : decode code 371 = .ok (.if_icmp .eq 250, 3) := by decide +kernel
theorem d_lw_law_374 : decode code 374 = .ok (.iconst 0, 1) := by decide +kernel
theorem d_lw_law_375 : decode code 375 = .ok (.ireturn, 1) := by decide +kernel
theorem d_lw_law_376 : decode code 376 = .ok (.aload_n 1, 1) := by decide +kernel
theorem d_lw_law_377 : decode code 377 = .ok (.aload_n 0, 1) := by decide +kernel
theorem d_lw_law_378 : decode code 378 = .ok (.iload_n 3, 1) := by decide +kernel
theorem d_lw_law_379 : decode code 379 = .ok (.iconst 1, 1) := by decide +kernel
theorem d_lw_law_380 : decode code 380 = .ok (.iadd, 1) := by decide +kernel
theorem d_lw_law_381 : decode code 381 = .ok (.iaload, 1) := by decide +kernel
theorem d_lw_law_382 : decode code 382 = .ok (.aload_n 0, 1) := by decide +kernel
theorem d_lw_law_383 : decode code 383 = .ok (.iload_n 3, 1) := by decide +kernel
theorem d_lw_law_384 : decode code 384 = .ok (.iconst 2, 1) := by decide +kernel
theorem d_lw_law_385 : decode code 385 = .ok (.iadd, 1) := by decide +kernel
theorem d_lw_law_386 : decode code 386 = .ok (.iaload, 1) := by decide +kernel
theorem d_lw_law_387 : decode code 387 = .ok (.aload_n 0, 1) := by decide +kernel
theorem d_lw_law_388 : decode code 388 = .ok (.iload_n 3, 1) := by decide +kernel
theorem d_lw_law_389 : decode code 389 = .ok (.iconst 3, 1) := by decide +kernel
theorem d_lw_law_390 : decode code 390 = .ok (.iadd, 1) := by decide +kernel
theorem d_lw_law_391 : decode code 391 = .ok (.iaload, 1) := by decide +kernel
theorem d_lw_law_392 : decode code 392 = .ok (.ifCond .eq 7, 3) := by decide +kernel
theorem d_lw_law_395 : decode code 395 = .ok (.iconst 1, 1) := by decide +kernel
theorem d_lw_law_396 : decode code 396 = .ok (.goto 4, 3) := by decide +kernel
theorem d_lw_law_399 : decode code 399 = .ok (.iconst 0, 1) := by decide +kernel
theorem d_lw_law_400 : decode code 400 = .ok (.invokevirtual 45, 3) := by decide +kernel
theorem d_lw_law_403 : decode code 403 = .ok (.aload_n 2, 1) := by decide +kernel
theorem d_lw_law_404 : decode code 404 = .ok (.aload_n 0, 1) := by decide +kernel
theorem d_lw_law_405 : decode code 405 = .ok (.iload_n 3, 1) := by decide +kernel
theorem d_lw_law_406 : decode code 406 = .ok (.iconst 1, 1) := by decide +kernel
theorem d_lw_law_407 : decode code 407 = .ok (.iadd, 1) := by decide +kernel
theorem d_lw_law_408 : decode code 408 = .ok (.iaload, 1) := by decide +kernel
theorem d_lw_law_409 : decode code 409 = .ok (.aload_n 0, 1) := by decide +kernel
theorem d_lw_law_410 : decode code 410 = .ok (.iload_n 3, 1) := by decide +kernel
theorem d_lw_law_411 : decode code 411 = .ok (.iconst 2, 1) := by decide +kernel
theorem d_lw_law_412 : decode code 412 = .ok (.iadd, 1) := by decide +kernel
theorem d_lw_law_413 : decode code 413 = .ok (.iaload, 1) := by decide +kernel
theorem d_lw_law_414 : decode code 414 = .ok (.aload_n 0, 1) := by decide +kernel
theorem d_lw_law_415 : decode code 415 = .ok (.iload_n 3, 1) := by decide +kernel
theorem d_lw_law_416 : decode code 416 = .ok (.iconst 3, 1) := by decide +kernel
theorem d_lw_law_417 : decode code 417 = .ok (.iadd, 1) := by decide +kernel
theorem d_lw_law_418 : decode code 418 = .ok (.iaload, 1) := by decide +kernel
theorem d_lw_law_419 : decode code 419 = .ok (.ifCond .eq 7, 3) := by decide +kernel
theorem d_lw_law_422 : decode code 422 = .ok (.iconst 1, 1) := by decide +kernel
theorem d_lw_law_423 : decode code 423 = .ok (.goto 4, 3) := by decide +kernel
theorem d_lw_law_426 : decode code 426 = .ok (.iconst 0, 1) := by decide +kernel
theorem d_lw_law_427 : decode code 427 = .ok (.invokevirtual 49, 3) := by decide +kernel
theorem d_lw_law_430 : decode code 430 = .ok (.if_icmp .eq 191, 3) := by decide +kernel
theorem d_lw_law_433 : decode code 433 = .ok (.iconst 0, 1) := by decide +kernel
theorem d_lw_law_434 : decode code 434 = .ok (.ireturn, 1) := by decide +kernel
theorem d_lw_law_435 : decode code 435 = .ok (.aload_n 1, 1) := by decide +kernel
theorem d_lw_law_436 : decode code 436 = .ok (.aload_n 0, 1) := by decide +kernel
theorem d_lw_law_437 : decode code 437 = .ok (.iload_n 3, 1) := by decide +kernel
theorem d_lw_law_438 : decode code 438 = .ok (.iconst 1, 1) := by decide +kernel
theorem d_lw_law_439 : decode code 439 = .ok (.iadd, 1) := by decide +kernel
theorem d_lw_law_440 : decode code 440 = .ok (.iaload, 1) := by decide +kernel
theorem d_lw_law_441 : decode code 441 = .ok (.aload_n 0, 1) := by decide +kernel
theorem d_lw_law_442 : decode code 442 = .ok (.iload_n 3, 1) := by decide +kernel
theorem d_lw_law_443 : decode code 443 = .ok (.iconst 2, 1) := by decide +kernel
theorem d_lw_law_444 : decode code 444 = .ok (.iadd, 1) := by decide +kernel
theorem d_lw_law_445 : decode code 445 = .ok (.iaload, 1) := by decide +kernel
theorem d_lw_law_446 : decode code 446 = .ok (.invokevirtual 50, 3) := by decide +kernel
theorem d_lw_law_449 : decode code 449 = .ok (.aload_n 2, 1) := by decide +kernel
theorem d_lw_law_450 : decode code 450 = .ok (.aload_n 0, 1) := by decide +kernel
theorem d_lw_law_451 : decode code 451 = .ok (.iload_n 3, 1) := by decide +kernel
theorem d_lw_law_452 : decode code 452 = .ok (.iconst 1, 1) := by decide +kernel
theorem d_lw_law_453 : decode code 453 = .ok (.iadd, 1) := by decide +kernel
theorem d_lw_law_454 : decode code 454 = .ok (.iaload, 1) := by decide +kernel
theorem d_lw_law_455 : decode code 455 = .ok (.aload_n 0, 1) := by decide +kernel
theorem d_lw_law_456 : decode code 456 = .ok (.iload_n 3, 1) := by decide +kernel
theorem d_lw_law_457 : decode code 457 = .ok (.iconst 2, 1) := by decide +kernel
theorem d_lw_law_458 : decode code 458 = .ok (.iadd, 1) := by decide +kernel
theorem d_lw_law_459 : decode code 459 = .ok (.iaload, 1) := by decide +kernel
theorem d_lw_law_460 : decode code 460 = .ok (.invokevirtual 53, 3) := by decide +kernel
theorem d_lw_law_463 : decode code 463 = .ok (.if_icmp .eq 158, 3) := by decide +kernel
theorem d_lw_law_466 : decode code 466 = .ok (.iconst 0, 1) := by decide +kernel
theorem d_lw_law_467 : decode code 467 = .ok (.ireturn, 1) := by decide +kernel
theorem d_lw_law_468 : decode code 468 = .ok (.aload_n 1, 1) := by decide +kernel
theorem d_lw_law_469 : decode code 469 = .ok (.invokevirtual 54, 3) := by decide +kernel
theorem d_lw_law_472 : decode code 472 = .ok (.aload_n 2, 1) := by decide +kernel
theorem d_lw_law_473 : decode code 473 = .ok (.invokevirtual 58, 3) := by decide +kernel
theorem d_lw_law_476 : decode code 476 = .ok (.if_icmp .eq 145, 3) := by decide +kernel
theorem d_lw_law_479 : decode code 479 = .ok (.iconst 0, 1) := by decide +kernel
theorem d_lw_law_480 : decode code 480 = .ok (.ireturn, 1) := by decide +kernel
theorem d_lw_law_481 : decode code 481 = .ok (.aload_n 1, 1) := by decide +kernel
theorem d_lw_law_482 : decode code 482 = .ok (.invokevirtual 59, 3) := by decide +kernel
theorem d_lw_law_485 : decode code 485 = .ok (.aload_n 2, 1) := by decide +kernel
theorem d_lw_law_486 : decode code 486 = .ok (.invokevirtual 63, 3) := by decide +kernel
theorem d_lw_law_489 : decode code 489 = .ok (.lcmp, 1) := by decide +kernel
theorem d_lw_law_490 : decode code 490 = .ok (.ifCond .eq 131, 3) := by decide +kernel
theorem d_lw_law_493 : decode code 493 = .ok (.iconst 0, 1) := by decide +kernel
theorem d_lw_law_494 : decode code 494 = .ok (.ireturn, 1) := by decide +kernel
theorem d_lw_law_495 : decode code 495 = .ok (.aload_n 1, 1) := by decide +kernel
theorem d_lw_law_496 : decode code 496 = .ok (.aload_n 0, 1) := by decide +kernel
theorem d_lw_law_497 : decode code 497 = .ok (.iload_n 3, 1) := by decide +kernel
theorem d_lw_law_498 : decode code 498 = .ok (.iconst 1, 1) := by decide +kernel
theorem d_lw_law_499 : decode code 499 = .ok (.iadd, 1) := by decide +kernel
theorem d_lw_law_500 : decode code 500 = .ok (.iaload, 1) := by decide +kernel
theorem d_lw_law_501 : decode code 501 = .ok (.invokevirtual 64, 3) := by decide +kernel
theorem d_lw_law_504 : decode code 504 = .ok (.aload_n 2, 1) := by decide +kernel
theorem d_lw_law_505 : decode code 505 = .ok (.aload_n 0, 1) := by decide +kernel
theorem d_lw_law_506 : decode code 506 = .ok (.iload_n 3, 1) := by decide +kernel
theorem d_lw_law_507 : decode code 507 = .ok (.iconst 1, 1) := by decide +kernel
theorem d_lw_law_508 : decode code 508 = .ok (.iadd, 1) := by decide +kernel
theorem d_lw_law_509 : decode code 509 = .ok (.iaload, 1) := by decide +kernel
theorem d_lw_law_510 : decode code 510 = .ok (.invokevirtual 67, 3) := by decide +kernel
theorem d_lw_law_513 : decode code 513 = .ok (.if_icmp .eq 108, 3) := by decide +kernel
theorem d_lw_law_516 : decode code 516 = .ok (.iconst 0, 1) := by decide +kernel
theorem d_lw_law_517 : decode code 517 = .ok (.ireturn, 1) := by decide +kernel
theorem d_lw_law_518 : decode code 518 = .ok (.aload_n 1, 1) := by decide +kernel
theorem d_lw_law_519 : decode code 519 = .ok (.aload_n 0, 1) := by decide +kernel
theorem d_lw_law_520 : decode code 520 = .ok (.iload_n 3, 1) := by decide +kernel
theorem d_lw_law_521 : decode code 521 = .ok (.iconst 1, 1) := by decide +kernel
theorem d_lw_law_522 : decode code 522 = .ok (.iadd, 1) := by decide +kernel
theorem d_lw_law_523 : decode code 523 = .ok (.iaload, 1) := by decide +kernel
theorem d_lw_law_524 : decode code 524 = .ok (.aload_n 0, 1) := by decide +kernel
theorem d_lw_law_525 : decode code 525 = .ok (.iload_n 3, 1) := by decide +kernel
theorem d_lw_law_526 : decode code 526 = .ok (.iconst 2, 1) := by decide +kernel
theorem d_lw_law_527 : decode code 527 = .ok (.iadd, 1) := by decide +kernel
theorem d_lw_law_528 : decode code 528 = .ok (.iaload, 1) := by decide +kernel
theorem d_lw_law_529 : decode code 529 = .ok (.invokevirtual 68, 3) := by decide +kernel
theorem d_lw_law_532 : decode code 532 = .ok (.aload_n 2, 1) := by decide +kernel
theorem d_lw_law_533 : decode code 533 = .ok (.aload_n 0, 1) := by decide +kernel
theorem d_lw_law_534 : decode code 534 = .ok (.iload_n 3, 1) := by decide +kernel
theorem d_lw_law_535 : decode code 535 = .ok (.iconst 1, 1) := by decide +kernel
theorem d_lw_law_536 : decode code 536 = .ok (.iadd, 1) := by decide +kernel
theorem d_lw_law_537 : decode code 537 = .ok (.iaload, 1) := by decide +kernel
theorem d_lw_law_538 : decode code 538 = .ok (.aload_n 0, 1) := by decide +kernel
theorem d_lw_law_539 : decode code 539 = .ok (.iload_n 3, 1) := by decide +kernel
theorem d_lw_law_540 : decode code 540 = .ok (.iconst 2, 1) := by decide +kernel
theorem d_lw_law_541 : decode code 541 = .ok (.iadd, 1) := by decide +kernel
theorem d_lw_law_542 : decode code 542 = .ok (.iaload, 1) := by decide +kernel
theorem d_lw_law_543 : decode code 543 = .ok (.invokevirtual 72, 3) := by decide +kernel
theorem d_lw_law_546 : decode code 546 = .ok (.if_icmp .eq 75, 3) := by decide +kernel
theorem d_lw_law_549 : decode code 549 = .ok (.iconst 0, 1) := by decide +kernel
theorem d_lw_law_550 : decode code 550 = .ok (.ireturn, 1) := by decide +kernel
theorem d_lw_law_551 : decode code 551 = .ok (.aload_n 1, 1) := by decide +kernel
theorem d_lw_law_552 : decode code 552 = .ok (.aload_n 0, 1) := by decide +kernel
theorem d_lw_law_553 : decode code 553 = .ok (.iload_n 3, 1) := by decide +kernel
theorem d_lw_law_554 : decode code 554 = .ok (.iconst 1, 1) := by decide +kernel
theorem d_lw_law_555 : decode code 555 = .ok (.iadd, 1) := by decide +kernel
theorem d_lw_law_556 : decode code 556 = .ok (.iaload, 1) := by decide +kernel
theorem d_lw_law_557 : decode code 557 = .ok (.invokevirtual 73, 3) := by decide +kernel
theorem d_lw_law_560 : decode code 560 = .ok (.aload_n 2, 1) := by decide +kernel
theorem d_lw_law_561 : decode code 561 = .ok (.aload_n 0, 1) := by decide +kernel
theorem d_lw_law_562 : decode code 562 = .ok (.iload_n 3, 1) := by decide +kernel
theorem d_lw_law_563 : decode code 563 = .ok (.iconst 1, 1) := by decide +kernel
theorem d_lw_law_564 : decode code 564 = .ok (.iadd, 1) := by decide +kernel
theorem d_lw_law_565 : decode code 565 = .ok (.iaload, 1) := by decide +kernel
theorem d_lw_law_566 : decode code 566 = .ok (.invokevirtual 76, 3) := by decide +kernel
theorem d_lw_law_569 : decode code 569 = .ok (.if_icmp .eq 52, 3) := by decide +kernel
theorem d_lw_law_572 : decode code 572 = .ok (.iconst 0, 1) := by decide +kernel
theorem d_lw_law_573 : decode code 573 = .ok (.ireturn, 1) := by decide +kernel
theorem d_lw_law_574 : decode code 574 = .ok (.aload_n 1, 1) := by decide +kernel
theorem d_lw_law_575 : decode code 575 = .ok (.aload_n 0, 1) := by decide +kernel
theorem d_lw_law_576 : decode code 576 = .ok (.iload_n 3, 1) := by decide +kernel
theorem d_lw_law_577 : decode code 577 = .ok (.iconst 1, 1) := by decide +kernel
theorem d_lw_law_578 : decode code 578 = .ok (.iadd, 1) := by decide +kernel
theorem d_lw_law_579 : decode code 579 = .ok (.iaload, 1) := by decide +kernel
theorem d_lw_law_580 : decode code 580 = .ok (.invokevirtual 77, 3) := by decide +kernel
theorem d_lw_law_583 : decode code 583 = .ok (.aload_n 2, 1) := by decide +kernel
theorem d_lw_law_584 : decode code 584 = .ok (.aload_n 0, 1) := by decide +kernel
theorem d_lw_law_585 : decode code 585 = .ok (.iload_n 3, 1) := by decide +kernel
theorem d_lw_law_586 : decode code 586 = .ok (.iconst 1, 1) := by decide +kernel
theorem d_lw_law_587 : decode code 587 = .ok (.iadd, 1) := by decide +kernel
theorem d_lw_law_588 : decode code 588 = .ok (.iaload, 1) := by decide +kernel
theorem d_lw_law_589 : decode code 589 = .ok (.invokevirtual 80, 3) := by decide +kernel
theorem d_lw_law_592 : decode code 592 = .ok (.if_icmp .eq 29, 3) := by decide +kernel
theorem d_lw_law_595 : decode code 595 = .ok (.iconst 0, 1) := by decide +kernel
theorem d_lw_law_596 : decode code 596 = .ok (.ireturn, 1) := by decide +kernel
theorem d_lw_law_597 : decode code 597 = .ok (.aload_n 1, 1) := by decide +kernel
theorem d_lw_law_598 : decode code 598 = .ok (.aload_n 0, 1) := by decide +kernel
theorem d_lw_law_599 : decode code 599 = .ok (.iload_n 3, 1) := by decide +kernel
theorem d_lw_law_600 : decode code 600 = .ok (.iconst 1, 1) := by decide +kernel
theorem d_lw_law_601 : decode code 601 = .ok (.iadd, 1) := by decide +kernel
theorem d_lw_law_602 : decode code 602 = .ok (.iaload, 1) := by decide +kernel
theorem d_lw_law_603 : decode code 603 = .ok (.invokevirtual 81, 3) := by decide +kernel
theorem d_lw_law_606 : decode code 606 = .ok (.aload_n 2, 1) := by decide +kernel
theorem d_lw_law_607 : decode code 607 = .ok (.aload_n 0, 1) := by decide +kernel
theorem d_lw_law_608 : decode code 608 = .ok (.iload_n 3, 1) := by decide +kernel
theorem d_lw_law_609 : decode code 609 = .ok (.iconst 1, 1) := by decide +kernel
theorem d_lw_law_610 : decode code 610 = .ok (.iadd, 1) := by decide +kernel
theorem d_lw_law_611 : decode code 611 = .ok (.iaload, 1) := by decide +kernel
theorem d_lw_law_612 : decode code 612 = .ok (.invokevirtual 85, 3) := by decide +kernel
theorem d_lw_law_615 : decode code 615 = .ok (.lcmp, 1) := by decide +kernel
theorem d_lw_law_616 : decode code 616 = .ok (.ifCond .eq 5, 3) := by decide +kernel
theorem d_lw_law_619 : decode code 619 = .ok (.iconst 0, 1) := by decide +kernel
theorem d_lw_law_620 : decode code 620 = .ok (.ireturn, 1) := by decide +kernel
theorem d_lw_law_621 : decode code 621 = .ok (.iinc 3 5, 3) := by decide +kernel
theorem d_lw_law_624 : decode code 624 = .ok (.goto (-606), 3) := by decide +kernel
theorem d_lw_law_627 : decode code 627 = .ok (.iconst 1, 1) := by decide +kernel
theorem d_lw_law_628 : decode code 628 = .ok (.ireturn, 1) := by decide +kernel
theorem d_ig_bitCount_0 : decode prog_8_method_49_code 0 = .ok (.iload_n 0, 1) := by decide +kernel
theorem d_ig_bitCount_1 : decode prog_8_method_49_code 1 = .ok (.iload_n 0, 1) := by decide +kernel
theorem d_ig_bitCount_2 : decode prog_8_method_49_code 2 = .ok (.iconst 1, 1) := by decide +kernel
theorem d_ig_bitCount_3 : decode prog_8_method_49_code 3 = .ok (.iushr, 1) := by decide +kernel
theorem d_ig_bitCount_4 : decode prog_8_method_49_code 4 = .ok (.ldc_w 265, 3) := by decide +kernel
theorem d_ig_bitCount_7 : decode prog_8_method_49_code 7 = .ok (.iand, 1) := by decide +kernel
theorem d_ig_bitCount_8 : decode prog_8_method_49_code 8 = .ok (.isub, 1) := by decide +kernel
theorem d_ig_bitCount_9 : decode prog_8_method_49_code 9 = .ok (.istore_n 0, 1) := by decide +kernel
theorem d_ig_bitCount_10 : decode prog_8_method_49_code 10 = .ok (.iload_n 0, 1) := by decide +kernel
theorem d_ig_bitCount_11 : decode prog_8_method_49_code 11 = .ok (.ldc_w 266, 3) := by decide +kernel
theorem d_ig_bitCount_14 : decode prog_8_method_49_code 14 = .ok (.iand, 1) := by decide +kernel
theorem d_ig_bitCount_15 : decode prog_8_method_49_code 15 = .ok (.iload_n 0, 1) := by decide +kernel
theorem d_ig_bitCount_16 : decode prog_8_method_49_code 16 = .ok (.iconst 2, 1) := by decide +kernel
theorem d_ig_bitCount_17 : decode prog_8_method_49_code 17 = .ok (.iushr, 1) := by decide +kernel
theorem d_ig_bitCount_18 : decode prog_8_method_49_code 18 = .ok (.ldc_w 266, 3) := by decide +kernel
theorem d_ig_bitCount_21 : decode prog_8_method_49_code 21 = .ok (.iand, 1) := by decide +kernel
theorem d_ig_bitCount_22 : decode prog_8_method_49_code 22 = .ok (.iadd, 1) := by decide +kernel
theorem d_ig_bitCount_23 : decode prog_8_method_49_code 23 = .ok (.istore_n 0, 1) := by decide +kernel
theorem d_ig_bitCount_24 : decode prog_8_method_49_code 24 = .ok (.iload_n 0, 1) := by decide +kernel
theorem d_ig_bitCount_25 : decode prog_8_method_49_code 25 = .ok (.iload_n 0, 1) := by decide +kernel
theorem d_ig_bitCount_26 : decode prog_8_method_49_code 26 = .ok (.iconst 4, 1) := by decide +kernel
theorem d_ig_bitCount_27 : decode prog_8_method_49_code 27 = .ok (.iushr, 1) := by decide +kernel
theorem d_ig_bitCount_28 : decode prog_8_method_49_code 28 = .ok (.iadd, 1) := by decide +kernel
theorem d_ig_bitCount_29 : decode prog_8_method_49_code 29 = .ok (.ldc_w 267, 3) := by decide +kernel
theorem d_ig_bitCount_32 : decode prog_8_method_49_code 32 = .ok (.iand, 1) := by decide +kernel
theorem d_ig_bitCount_33 : decode prog_8_method_49_code 33 = .ok (.istore_n 0, 1) := by decide +kernel
theorem d_ig_bitCount_34 : decode prog_8_method_49_code 34 = .ok (.iload_n 0, 1) := by decide +kernel
theorem d_ig_bitCount_35 : decode prog_8_method_49_code 35 = .ok (.iload_n 0, 1) := by decide +kernel
theorem d_ig_bitCount_36 : decode prog_8_method_49_code 36 = .ok (.bipush 8, 2) := by decide +kernel
theorem d_ig_bitCount_38 : decode prog_8_method_49_code 38 = .ok (.iushr, 1) := by decide +kernel
theorem d_ig_bitCount_39 : decode prog_8_method_49_code 39 = .ok (.iadd, 1) := by decide +kernel
theorem d_ig_bitCount_40 : decode prog_8_method_49_code 40 = .ok (.istore_n 0, 1) := by decide +kernel
theorem d_ig_bitCount_41 : decode prog_8_method_49_code 41 = .ok (.iload_n 0, 1) := by decide +kernel
theorem d_ig_bitCount_42 : decode prog_8_method_49_code 42 = .ok (.iload_n 0, 1) := by decide +kernel
theorem d_ig_bitCount_43 : decode prog_8_method_49_code 43 = .ok (.bipush 16, 2) := by decide +kernel
theorem d_ig_bitCount_45 : decode prog_8_method_49_code 45 = .ok (.iushr, 1) := by decide +kernel
theorem d_ig_bitCount_46 : decode prog_8_method_49_code 46 = .ok (.iadd, 1) := by decide +kernel
theorem d_ig_bitCount_47 : decode prog_8_method_49_code 47 = .ok (.istore_n 0, 1) := by decide +kernel
theorem d_ig_bitCount_48 : decode prog_8_method_49_code 48 = .ok (.iload_n 0, 1) := by decide +kernel
theorem d_ig_bitCount_49 : decode prog_8_method_49_code 49 = .ok (.bipush 63, 2) := by decide +kernel
theorem d_ig_bitCount_51 : decode prog_8_method_49_code 51 = .ok (.iand, 1) := by decide +kernel
theorem d_ig_bitCount_52 : decode prog_8_method_49_code 52 = .ok (.ireturn, 1) := by decide +kernel
theorem d_ar_fill_0 : decode prog_11_method_103_code 0 = .ok (.iconst 0, 1) := by decide +kernel
theorem d_ar_fill_1 : decode prog_11_method_103_code 1 = .ok (.istore_n 2, 1) := by decide +kernel
theorem d_ar_fill_2 : decode prog_11_method_103_code 2 = .ok (.aload_n 0, 1) := by decide +kernel
theorem d_ar_fill_3 : decode prog_11_method_103_code 3 = .ok (.arraylength, 1) := by decide +kernel
theorem d_ar_fill_4 : decode prog_11_method_103_code 4 = .ok (.istore_n 3, 1) := by decide +kernel
theorem d_ar_fill_5 : decode prog_11_method_103_code 5 = .ok (.iload_n 2, 1) := by decide +kernel
theorem d_ar_fill_6 : decode prog_11_method_103_code 6 = .ok (.iload_n 3, 1) := by decide +kernel
theorem d_ar_fill_7 : decode prog_11_method_103_code 7 = .ok (.if_icmp .ge 13, 3) := by decide +kernel
theorem d_ar_fill_10 : decode prog_11_method_103_code 10 = .ok (.aload_n 0, 1) := by decide +kernel
theorem d_ar_fill_11 : decode prog_11_method_103_code 11 = .ok (.iload_n 2, 1) := by decide +kernel
theorem d_ar_fill_12 : decode prog_11_method_103_code 12 = .ok (.iload_n 1, 1) := by decide +kernel
theorem d_ar_fill_13 : decode prog_11_method_103_code 13 = .ok (.iastore, 1) := by decide +kernel
theorem d_ar_fill_14 : decode prog_11_method_103_code 14 = .ok (.iinc 2 1, 3) := by decide +kernel
theorem d_ar_fill_17 : decode prog_11_method_103_code 17 = .ok (.goto (-12), 3) := by decide +kernel
theorem d_ar_fill_20 : decode prog_11_method_103_code 20 = .ok (.return_, 1) := by decide +kernel
end
section
/-! SETS OF STOPS AS NUMBERS -/
def wi (S s : Nat) : Nat := S ||| 2 ^ s
def wo (S s : Nat) : Nat := (S ||| 2 ^ s) ^^^ 2 ^ s
theorem wi_bit (S s t : Nat) : (wi S s).testBit t = (S.testBit t || decide (s = t)) := by
  simp [wi, Nat.testBit_or, Nat.testBit_two_pow]
theorem wo_bit (S s t : Nat) : (wo S s).testBit t = (S.testBit t && !decide (s = t)) := by
  by_cases h : s = t <;> simp [wo, Nat.testBit_or, Nat.testBit_xor, Nat.testBit_two_pow, h]
theorem wo_wi {S s : Nat} (h : S.testBit s = false) : wo (wi S s) s = S := by
  apply Nat.eq_of_testBit_eq
  intro i
  rw [wo_bit, wi_bit]
  by_cases h1 : s = i
  · subst h1; simp [h]
  · simp [h1]
theorem wi_wo {S s : Nat} (h : S.testBit s = true) : wi (wo S s) s = S := by
  apply Nat.eq_of_testBit_eq
  intro i
  rw [wi_bit, wo_bit]
  by_cases h1 : s = i
  · subst h1; simp [h]
  · simp [h1]
theorem dj_add {a b : Nat} (h : a &&& b = 0) : a ||| b = a + b := by
  have hw : a + b < 2 ^ (a + b) := Nat.lt_two_pow_self
  have e := BitVec.add_eq_or_of_and_eq_zero (BitVec.ofNat (a + b) a) (BitVec.ofNat (a + b) b) (by rw [← BitVec.ofNat_and, h])
  have e2 := congrArg BitVec.toNat e
  rw [BitVec.toNat_add, BitVec.toNat_or, BitVec.toNat_ofNat, BitVec.toNat_ofNat, Nat.mod_eq_of_lt (show a < 2 ^ (a + b) by omega), Nat.mod_eq_of_lt (show b < 2 ^ (a + b) by omega), Nat.mod_eq_of_lt hw] at e2
  exact e2.symm
theorem wo_add {S s : Nat} (h : S.testBit s = true) : wo S s + 2 ^ s = S := by
  have h2 : (wo S s).testBit s = false := by rw [wo_bit]; simp
  have h3 : wo S s &&& 2 ^ s = 0 := by
    apply Nat.eq_of_testBit_eq
    intro i
    rw [Nat.testBit_and, Nat.testBit_two_pow, Nat.zero_testBit]
    by_cases h4 : s = i
    · subst h4; simp [h2]
    · simp [h4]
  rw [← dj_add h3]
  exact wi_wo h
/-- a part taken off -/
theorem sub_bit {S P : Nat} (h : P &&& S = P) (i : Nat) : (S - P).testBit i = (S.testBit i && !P.testBit i) := by
  have hb : ∀ j, P.testBit j = true → S.testBit j = true := by
    intro j hj
    rw [← h, Nat.testBit_and] at hj
    simp at hj
    exact hj.2
  have h1 : (S ^^^ P) &&& P = 0 := by
    apply Nat.eq_of_testBit_eq
    intro j
    rw [Nat.testBit_and, Nat.testBit_xor, Nat.zero_testBit]
    cases hp : P.testBit j with
    | false => simp
    | true => simp [hb j hp]
  have h2 : (S ^^^ P) ||| P = S := by
    apply Nat.eq_of_testBit_eq
    intro j
    rw [Nat.testBit_or, Nat.testBit_xor]
    cases hp : P.testBit j with
    | false => simp
    | true => simp [hb j hp]
  rw [dj_add h1] at h2
  have h3 : S - P = S ^^^ P := by omega
  rw [h3, Nat.testBit_xor]
  cases hp : P.testBit i with
  | false => simp
  | true => simp [hb i hp]
theorem wo_lt {S s : Nat} (h : S.testBit s = true) : wo S s < S := by
  have := wo_add h
  have := Nat.two_pow_pos s
  omega
/-! THE LEAST OF SOME -/
def NV : Int := 1073741824
def mnF (P : Nat → Bool) (f : Nat → Int) (x : Int) : Nat → Int
  | 0 => x
  | k + 1 => if P k = true then min (mnF P f x k) (f k) else mnF P f x k
theorem mnF_x (P : Nat → Bool) (f : Nat → Int) (x : Int) (n : Nat) : mnF P f x n ≤ x := by
  induction n with
  | zero => exact Int.le_refl x
  | succ k ih => unfold mnF; split <;> omega
theorem mnF_le {P : Nat → Bool} {f : Nat → Int} {x : Int} {n i : Nat} (hi : i < n) (hP : P i = true) : mnF P f x n ≤ f i := by
  induction n with
  | zero => omega
  | succ k ih =>
    unfold mnF
    by_cases h : i = k
    · subst h; rw [if_pos hP]; omega
    · have := ih (by omega)
      split <;> omega
theorem mnF_ex (P : Nat → Bool) (f : Nat → Int) (x : Int) (n : Nat) : mnF P f x n = x ∨ ∃ i, i < n ∧ P i = true ∧ mnF P f x n = f i := by
  induction n with
  | zero => exact Or.inl rfl
  | succ k ih =>
    unfold mnF
    split
    · rename_i h
      by_cases h1 : mnF P f x k ≤ f k
      · rw [Int.min_eq_left h1]
        rcases ih with ih | ⟨i, h2, h3, h4⟩
        · exact Or.inl ih
        · exact Or.inr ⟨i, by omega, h3, h4⟩
      · rw [Int.min_eq_right (by omega)]
        exact Or.inr ⟨k, by omega, h, rfl⟩
    · rcases ih with ih | ⟨i, h2, h3, h4⟩
      · exact Or.inl ih
      · exact Or.inr ⟨i, by omega, h3, h4⟩
/-! ROUNDS: what a vehicle that leaves at t0 does; Wy the ways, F La Sv first, last, service, bh the stops behind each one. A row of stops, the last one first. -/
section Rounds
variable (n : Nat) (Wy : Nat → Nat → Int) (F La Sv : Nat → Int) (t0 : Int) (bh : Nat → Nat)
def stp (s : Nat) (t : Int) : Option Int := if La s < t then none else some (max t (F s) + Sv s)
def rdy : List Nat → Option Int
  | [] => none
  | s :: r => match r with
    | [] => stp F La Sv s (t0 + Wy 7 s)
    | u :: _ => (rdy r).bind fun t => stp F La Sv s (t + Wy u s)
def lset : List Nat → Nat
  | [] => 0
  | s :: r => wi (lset r) s
def vld : List Nat → Prop
  | [] => True
  | s :: r => s < n ∧ (lset r).testBit s = false ∧ bh s &&& lset r = 0 ∧ vld r
/-- the first second at which one can be at s behind the set R, whose rows end at the seconds g -/
def thF (g : Nat → Int) (R s : Nat) : Int := mnF (fun i => R.testBit i) (fun i => g i + Wy i s) (if R = 0 then t0 + Wy 7 s else NV) n
/-- the class's row of the table -/
def rdF (T : Nat → Nat → Int) (S s : Nat) : Int :=
  if ¬ bh s &&& wo S s = 0 then NV
  else if La s < thF n Wy t0 (T (wo S s)) (wo S s) s then NV
  else max (thF n Wy t0 (T (wo S s)) (wo S s) s) (F s) + Sv s
theorem thF_0 (g : Nat → Int) (s : Nat) : thF n Wy t0 g 0 s = t0 + Wy 7 s := by
  unfold thF
  rcases mnF_ex (fun i => Nat.testBit 0 i) (fun i => g i + Wy i s) (if (0 : Nat) = 0 then t0 + Wy 7 s else NV) n with h | ⟨i, -, h, -⟩
  · rw [h, if_pos rfl]
  · simp at h
theorem thF_le (g : Nat → Int) {R s u : Nat} (hu : u < n) (hb : R.testBit u = true) : thF n Wy t0 g R s ≤ g u + Wy u s :=
  mnF_le (P := fun i => R.testBit i) (f := fun i => g i + Wy i s) hu hb
theorem thF_ex (g : Nat → Int) {R s : Nat} (h0 : ¬ R = 0) : thF n Wy t0 g R s = NV ∨ ∃ u, u < n ∧ R.testBit u = true ∧ thF n Wy t0 g R s = g u + Wy u s := by
  unfold thF
  rw [if_neg h0]
  exact mnF_ex (fun i => R.testBit i) (fun i => g i + Wy i s) NV n
theorem lset_ne {s : Nat} {r : List Nat} : lset (s :: r) ≠ 0 := by
  intro h
  have h1 : (lset (s :: r)).testBit s = true := by unfold lset; rw [wi_bit]; simp
  rw [h] at h1
  simp at h1
theorem lset_head {s : Nat} {r : List Nat} : (lset (s :: r)).testBit s = true := by unfold lset; rw [wi_bit]; simp
theorem lset_lt {r : List Nat} (h : vld n bh r) : ∀ t, (lset r).testBit t = true → t < n := by
  induction r with
  | nil => intro t ht; simp [lset] at ht
  | cons s r ih =>
    obtain ⟨h1, h2, h3, h4⟩ := h
    intro t ht
    unfold lset at ht
    rw [wi_bit] at ht
    by_cases h5 : s = t
    · omega
    · exact ih h4 t (by simpa [h5] using ht)
/-- what the table says is never too much -/
theorem rd_opt {T : Nat → Nat → Int} {M : Nat → Prop} (hM : ∀ S s, M S → S.testBit s = true → M (wo S s)) (hT : ∀ S s, M S → s < n → S.testBit s = true → T S s = rdF n Wy F La Sv t0 bh T S s)
    : ∀ (r : List Nat) (s : Nat) (t : Int), vld n bh (s :: r) → M (lset (s :: r)) → rdy Wy F La Sv t0 (s :: r) = some t → T (lset (s :: r)) s ≤ t := by
  intro r
  induction r with
  | nil =>
    intro s t hv hm ht
    obtain ⟨h1, h2, h3, h4⟩ := hv
    rw [hT _ s hm h1 lset_head]
    have e : wo (lset [s]) s = 0 := wo_wi h2
    simp only [rdy, stp] at ht
    unfold rdF
    rw [e, thF_0]
    by_cases h5 : La s < t0 + Wy 7 s
    · rw [if_pos h5] at ht; cases ht
    · rw [if_neg h5] at ht
      cases ht
      rw [if_neg (by simp), if_neg h5]
      exact Int.le_refl _
  | cons u r ih =>
    intro s t hv hm ht
    obtain ⟨h1, h2, h3, h4⟩ := hv
    rw [hT _ s hm h1 lset_head]
    have e : wo (lset (s :: u :: r)) s = lset (u :: r) := wo_wi h2
    rw [show rdy Wy F La Sv t0 (s :: u :: r) = (rdy Wy F La Sv t0 (u :: r)).bind fun t => stp F La Sv s (t + Wy u s) from rfl] at ht
    cases hr : rdy Wy F La Sv t0 (u :: r) with
    | none => rw [hr] at ht; cases ht
    | some t1 =>
      rw [hr] at ht
      have hi := ih u t1 h4 (by rw [← e]; exact hM _ s hm lset_head) hr
      simp only [Option.bind_some, stp] at ht
      by_cases h5 : La s < t1 + Wy u s
      · rw [if_pos h5] at ht; cases ht
      · rw [if_neg h5] at ht
        cases ht
        unfold rdF
        rw [e]
        have hmn := thF_le n Wy t0 (T (lset (u :: r))) (s := s) h4.1 (lset_head (s := u) (r := r))
        rw [if_neg (fun z => z h3), if_neg (by omega)]
        omega
/-- what the table says can be had -/
theorem rd_has {T : Nat → Nat → Int} {M : Nat → Prop} (hM : ∀ S s, M S → S.testBit s = true → M (wo S s)) (hn : ∀ S s, M S → S.testBit s = true → s < n) (hT : ∀ S s, M S → s < n → S.testBit s = true → T S s = rdF n Wy F La Sv t0 bh T S s)
    (hLa : ∀ s, s < n → La s < NV) (hW : ∀ a b, 0 ≤ Wy a b) : ∀ (k S s : Nat), S ≤ k → M S → S.testBit s = true → T S s < NV → ∃ r, vld n bh (s :: r) ∧ lset (s :: r) = S ∧ rdy Wy F La Sv t0 (s :: r) = some (T S s) := by
  intro k
  induction k with
  | zero =>
    intro S s hk _ hb
    have : S = 0 := by omega
    subst this
    simp at hb
  | succ k ih =>
    intro S s hk hm hb hlt
    have hs := hn S s hm hb
    rw [hT S s hm hs hb] at hlt ⊢
    unfold rdF at hlt ⊢
    by_cases h1 : bh s &&& wo S s = 0
    · rw [if_neg (fun z => z h1)] at hlt ⊢
      by_cases h2 : La s < thF n Wy t0 (T (wo S s)) (wo S s) s
      · rw [if_pos h2] at hlt; omega
      · rw [if_neg h2]
        have hwo : (wo S s).testBit s = false := by rw [wo_bit]; simp
        by_cases h0 : wo S s = 0
        · rw [h0, thF_0] at h2 ⊢
          refine ⟨[], ⟨hs, by simp [lset], by simp [lset], trivial⟩, ?_, ?_⟩
          · have := wi_wo hb
            rw [h0] at this
            exact this
          · simp only [rdy, stp, if_neg h2]
        · rcases thF_ex n Wy t0 (T (wo S s)) (s := s) h0 with h | ⟨u, hu, hub, h⟩
          · rw [h] at h2
            have := hLa s hs
            omega
          · have hT1 : T (wo S s) u < NV := by
              rw [h] at h2
              have := hLa s hs
              have := hW u s
              omega
            obtain ⟨r, v1, v2, v3⟩ := ih (wo S s) u (by have := wo_lt hb; omega) (hM S s hm hb) hub hT1
            refine ⟨u :: r, ⟨hs, by rw [v2]; exact hwo, by rw [v2]; exact h1, v1⟩, ?_, ?_⟩
            · show wi (lset (u :: r)) s = S
              rw [v2]; exact wi_wo hb
            · show (rdy Wy F La Sv t0 (u :: r)).bind (fun t => stp F La Sv s (t + Wy u s)) = _
              rw [v3]
              simp only [Option.bind_some, stp]
              rw [h] at h2 ⊢
              rw [if_neg h2]
    · rw [if_pos h1] at hlt; omega
end Rounds
end
section
/-! THE MOST OF SOME; THE FIRST OF SOME -/
def mxF (P : Nat → Bool) (f : Nat → Int) (x : Int) : Nat → Int
  | 0 => x
  | k + 1 => if P k = true then max (mxF P f x k) (f k) else mxF P f x k
theorem mxF_x (P : Nat → Bool) (f : Nat → Int) (x : Int) (n : Nat) : x ≤ mxF P f x n := by
  induction n with
  | zero => exact Int.le_refl x
  | succ k ih => unfold mxF; split <;> omega
theorem mxF_le {P : Nat → Bool} {f : Nat → Int} {x : Int} {n i : Nat} (hi : i < n) (hP : P i = true) : f i ≤ mxF P f x n := by
  induction n with
  | zero => omega
  | succ k ih =>
    unfold mxF
    by_cases h : i = k
    · subst h; rw [if_pos hP]; omega
    · have := ih (by omega)
      split <;> omega
theorem mxF_ex (P : Nat → Bool) (f : Nat → Int) (x : Int) (n : Nat) : mxF P f x n = x ∨ ∃ i, i < n ∧ P i = true ∧ mxF P f x n = f i := by
  induction n with
  | zero => exact Or.inl rfl
  | succ k ih =>
    unfold mxF
    split
    · rename_i h
      by_cases h1 : f k ≤ mxF P f x k
      · rw [Int.max_eq_left h1]
        rcases ih with ih | ⟨i, h2, h3, h4⟩
        · exact Or.inl ih
        · exact Or.inr ⟨i, by omega, h3, h4⟩
      · rw [Int.max_eq_right (by omega)]
        exact Or.inr ⟨k, by omega, h, rfl⟩
    · rcases ih with ih | ⟨i, h2, h3, h4⟩
      · exact Or.inl ih
      · exact Or.inr ⟨i, by omega, h3, h4⟩
def fsF (P : Nat → Bool) : Nat → Option Nat
  | 0 => none
  | k + 1 => match fsF P k with
    | some x => some x
    | none => if P k = true then some k else none
theorem fsF_none {P : Nat → Bool} {n : Nat} (h : fsF P n = none) : ∀ i, i < n → P i = false := by
  induction n with
  | zero => intro i hi; omega
  | succ k ih =>
    unfold fsF at h
    cases h1 : fsF P k with
    | some x => rw [h1] at h; cases h
    | none =>
      rw [h1] at h
      dsimp only at h
      intro i hi
      by_cases h2 : i = k
      · subst h2
        cases h3 : P i with
        | false => rfl
        | true => rw [h3] at h; simp at h
      · exact ih h1 i (by omega)
theorem fsF_some {P : Nat → Bool} {n x : Nat} (h : fsF P n = some x) : x < n ∧ P x = true ∧ ∀ i, i < x → P i = false := by
  induction n with
  | zero => cases h
  | succ k ih =>
    unfold fsF at h
    cases h1 : fsF P k with
    | some y =>
      rw [h1] at h
      cases h
      obtain ⟨a, b, c⟩ := ih h1
      exact ⟨by omega, b, c⟩
    | none =>
      rw [h1] at h
      dsimp only at h
      split at h
      · cases h
        rename_i h2
        exact ⟨by omega, h2, fsF_none h1⟩
      · cases h
/-! ROWS IN THEIR ORDER -/
def lexLe : List Nat → List Nat → Prop
  | [], _ => True
  | _ :: _, [] => False
  | a :: x, b :: y => a < b ∨ (a = b ∧ lexLe x y)
theorem lexLe_anti : ∀ (x y : List Nat), x.length = y.length → lexLe x y → lexLe y x → x = y
  | [], [], _, _, _ => rfl
  | [], _ :: _, h, _, _ => by simp at h
  | _ :: _, [], h, _, _ => by simp at h
  | a :: x, b :: y, h, h1, h2 => by
    rcases h1 with h1 | ⟨h1, h3⟩
    · rcases h2 with h2 | ⟨h2, _⟩ <;> omega
    · rcases h2 with h2 | ⟨_, h4⟩
      · omega
      · rw [h1, lexLe_anti x y (by simpa using h) h3 h4]
/-! HOW MANY -/
def cnt (P : Nat → Bool) : Nat → Nat
  | 0 => 0
  | k + 1 => cnt P k + if P k = true then 1 else 0
theorem cnt_one {P P' : Nat → Bool} {s : Nat} (h0 : P s = false) (h1 : P' s = true) (h : ∀ i, i ≠ s → P' i = P i) : ∀ n, cnt P' n = cnt P n + if s < n then 1 else 0 := by
  intro n
  induction n with
  | zero => rfl
  | succ k ih =>
    unfold cnt
    rw [ih]
    by_cases hk : k = s
    · subst hk
      simp [h0, h1]
    · rw [h k hk]
      have : (s < k + 1) = (s < k) := by apply propext; omega
      simp only [this]
      omega
theorem vld_len {n : Nat} {bh : Nat → Nat} : ∀ {r : List Nat}, vld n bh r → r.length = cnt (fun i => (lset r).testBit i) n
  | [], _ => by
    have : ∀ n, cnt (fun i => (lset []).testBit i) n = 0 := by
      intro n
      induction n with
      | zero => rfl
      | succ k ih => unfold cnt; rw [ih]; simp [lset]
    rw [this]; rfl
  | s :: r, h => by
    obtain ⟨h1, h2, h3, h4⟩ := h
    have e := cnt_one (P := fun i => (lset r).testBit i) (P' := fun i => (lset (s :: r)).testBit i) (s := s) h2 lset_head (fun i hi => by
      show (wi (lset r) s).testBit i = _
      rw [wi_bit]; simp [Ne.symm hi]) n
    rw [e, ← vld_len h4, if_pos h1]
    rfl
section Drive
variable (n : Nat) (Wy : Nat → Nat → Int) (F La Sv : Nat → Int) (ah : Nat → Nat) (B : Int)
def fwd : List Nat → Int → Nat → Option Int
  | [], t, p => some (t + Wy p 7)
  | s :: r, t, p => (stp F La Sv s (t + Wy p s)).bind fun t' => fwd r t' s
/-- the last second at which s may be left, the set R, to be begun by the seconds g, being left -/
def lvF (g : Nat → Int) (R s : Nat) : Int := mxF (fun i => R.testBit i) (fun i => g i - Wy s i) (if R = 0 then B - Wy s 7 else -1) n
def ltF (T : Nat → Nat → Int) (P s : Nat) : Int :=
  if ¬ ah s &&& wo P s = 0 then -1
  else if lvF n Wy B (T (wo P s)) (wo P s) s - Sv s < F s then -1
  else min (lvF n Wy B (T (wo P s)) (wo P s) s - Sv s) (La s)
theorem lvF_0 (g : Nat → Int) (s : Nat) : lvF n Wy B g 0 s = B - Wy s 7 := by
  unfold lvF
  rcases mxF_ex (fun i => Nat.testBit 0 i) (fun i => g i - Wy s i) (if (0 : Nat) = 0 then B - Wy s 7 else -1) n with h | ⟨i, -, h, -⟩
  · rw [h, if_pos rfl]
  · simp at h
theorem lvF_le (g : Nat → Int) {R s u : Nat} (hu : u < n) (hb : R.testBit u = true) : g u - Wy s u ≤ lvF n Wy B g R s :=
  mxF_le (P := fun i => R.testBit i) (f := fun i => g i - Wy s i) hu hb
theorem lvF_ex (g : Nat → Int) {R s : Nat} (h0 : ¬ R = 0) : lvF n Wy B g R s = -1 ∨ ∃ u, u < n ∧ R.testBit u = true ∧ lvF n Wy B g R s = g u - Wy s u := by
  unfold lvF
  rw [if_neg h0]
  exact mxF_ex (fun i => R.testBit i) (fun i => g i - Wy s i) (-1) n
/-- there in time: the rest can be driven -/
theorem lt_has {T : Nat → Nat → Int} {M : Nat → Prop} (hM : ∀ S s, M S → S.testBit s = true → M (wo S s)) (hn : ∀ S s, M S → S.testBit s = true → s < n) (hT : ∀ S s, M S → s < n → S.testBit s = true → T S s = ltF n Wy F La Sv ah B T S s)
    (hF : ∀ s, s < n → 0 ≤ F s) (hS : ∀ s, s < n → 0 ≤ Sv s) (hW : ∀ a b, 0 ≤ Wy a b) : ∀ (k P s : Nat) (a : Int), P ≤ k → M P → P.testBit s = true → 0 ≤ a → a ≤ T P s →
    ∃ r b, vld n ah (s :: r) ∧ lset (s :: r) = P ∧ (stp F La Sv s a).bind (fun t' => fwd Wy F La Sv r t' s) = some b ∧ b ≤ B := by
  intro k
  induction k with
  | zero =>
    intro P s a hk _ hb
    have : P = 0 := by omega
    subst this
    simp at hb
  | succ k ih =>
    intro P s a hk hm hb ha hle
    have hs := hn P s hm hb
    have hF := hF s hs
    have hS0 := hS s hs
    rw [hT P s hm hs hb] at hle
    unfold ltF at hle
    by_cases h1 : ah s &&& wo P s = 0
    · rw [if_neg (fun z => z h1)] at hle
      by_cases h2 : lvF n Wy B (T (wo P s)) (wo P s) s - Sv s < F s
      · rw [if_pos h2] at hle; omega
      · rw [if_neg h2] at hle
        have hwo : (wo P s).testBit s = false := by rw [wo_bit]; simp
        have hst : stp F La Sv s a = some (max a (F s) + Sv s) := by unfold stp; rw [if_neg (by omega)]
        rw [hst]
        simp only [Option.bind_some]
        by_cases h0 : wo P s = 0
        · rw [h0, lvF_0] at h2 hle
          refine ⟨[], max a (F s) + Sv s + Wy s 7, ⟨hs, by simp [lset], by simp [lset], trivial⟩, ?_, rfl, by omega⟩
          have := wi_wo hb
          rw [h0] at this
          exact this
        · rcases lvF_ex n Wy B (T (wo P s)) (s := s) h0 with h | ⟨u, hu, hub, h⟩
          · rw [h] at h2
            omega
          · rw [h] at h2 hle
            have hWu := hW s u
            obtain ⟨r, b, v1, v2, v3, v4⟩ := ih (wo P s) u (max a (F s) + Sv s + Wy s u) (by have := wo_lt hb; omega) (hM P s hm hb) hub (by omega) (by omega)
            refine ⟨u :: r, b, ⟨hs, by rw [v2]; exact hwo, by rw [v2]; exact h1, v1⟩, ?_, v3, v4⟩
            show wi (lset (u :: r)) s = P
            rw [v2]; exact wi_wo hb
    · rw [if_pos h1] at hle; omega
theorem lt_opt {T : Nat → Nat → Int} {M : Nat → Prop} (hM : ∀ S s, M S → S.testBit s = true → M (wo S s)) (hT : ∀ S s, M S → s < n → S.testBit s = true → T S s = ltF n Wy F La Sv ah B T S s)
    : ∀ (r : List Nat) (s : Nat) (a b : Int), vld n ah (s :: r) → M (lset (s :: r)) → (stp F La Sv s a).bind (fun t' => fwd Wy F La Sv r t' s) = some b → b ≤ B → a ≤ T (lset (s :: r)) s := by
  intro r
  induction r with
  | nil =>
    intro s a b hv hm ht hB
    obtain ⟨h1, h2, h3, h4⟩ := hv
    rw [hT _ s hm h1 lset_head]
    have e : wo (lset [s]) s = 0 := wo_wi h2
    unfold stp at ht
    by_cases h5 : La s < a
    · rw [if_pos h5] at ht; cases ht
    · rw [if_neg h5] at ht
      simp only [Option.bind_some, fwd] at ht
      cases ht
      unfold ltF
      rw [e, lvF_0, if_neg (by simp), if_neg (by omega)]
      omega
  | cons u r ih =>
    intro s a b hv hm ht hB
    obtain ⟨h1, h2, h3, h4⟩ := hv
    rw [hT _ s hm h1 lset_head]
    have e : wo (lset (s :: u :: r)) s = lset (u :: r) := wo_wi h2
    unfold stp at ht
    by_cases h5 : La s < a
    · rw [if_pos h5] at ht; cases ht
    · rw [if_neg h5] at ht
      simp only [Option.bind_some, fwd] at ht
      have hi := ih u _ b h4 (by rw [← e]; exact hM _ s hm lset_head) ht hB
      unfold ltF
      rw [e]
      have hmx := lvF_le n Wy B (T (lset (u :: r))) (s := s) h4.1 (lset_head (s := u) (r := r))
      rw [if_neg (fun z => z h3), if_neg (by omega)]
      omega
/-- the class's drive: the first stop that is in time, again and again -/
def drv (T : Nat → Nat → Int) : Nat → Nat → Int → Nat → List Nat
  | 0, _, _, _ => []
  | k + 1, p, t, P => match fsF (fun s => P.testBit s && decide (t + Wy p s ≤ T P s)) n with
    | none => []
    | some s => s :: drv T k s (max (t + Wy p s) (F s) + Sv s) (wo P s)
theorem drv_ok {T : Nat → Nat → Int} {M : Nat → Prop} (hM : ∀ S s, M S → S.testBit s = true → M (wo S s)) (hn : ∀ S s, M S → S.testBit s = true → s < n) (hT : ∀ S s, M S → s < n → S.testBit s = true → T S s = ltF n Wy F La Sv ah B T S s)
    (hF : ∀ s, s < n → 0 ≤ F s) (hS : ∀ s, s < n → 0 ≤ Sv s) (hW : ∀ a b, 0 ≤ Wy a b) : ∀ (k : Nat) (r : List Nat) (p : Nat) (t b : Int), vld n ah r → r.length ≤ k → 0 ≤ t → M (lset r) → fwd Wy F La Sv r t p = some b → b ≤ B →
    ∃ b', vld n ah (drv n Wy F Sv T k p t (lset r)) ∧ lset (drv n Wy F Sv T k p t (lset r)) = lset r ∧ fwd Wy F La Sv (drv n Wy F Sv T k p t (lset r)) t p = some b' ∧ b' ≤ B ∧ lexLe (drv n Wy F Sv T k p t (lset r)) r := by
  intro k
  induction k with
  | zero =>
    intro r p t b hv hlen ht hm hf hB
    have : r = [] := List.length_eq_zero_iff.mp (by omega)
    subst this
    exact ⟨b, trivial, rfl, hf, hB, trivial⟩
  | succ k ih =>
    intro r p t b hv hlen ht hm hf hB
    cases r with
    | nil =>
      have h0 : fsF (fun s => (lset []).testBit s && decide (t + Wy p s ≤ T (lset []) s)) n = none := by
        cases h : fsF (fun s => (lset []).testBit s && decide (t + Wy p s ≤ T (lset []) s)) n with
        | none => rfl
        | some x =>
          have := (fsF_some h).2.1
          simp [lset] at this
      unfold drv
      rw [h0]
      exact ⟨b, trivial, rfl, hf, hB, trivial⟩
    | cons s0 r0 =>
      have hlt : t + Wy p s0 ≤ T (lset (s0 :: r0)) s0 := lt_opt n Wy F La Sv ah B hM hT r0 s0 (t + Wy p s0) b hv hm hf hB
      cases hfs : fsF (fun s => (lset (s0 :: r0)).testBit s && decide (t + Wy p s ≤ T (lset (s0 :: r0)) s)) n with
      | none =>
        have := fsF_none hfs s0 hv.1
        simp [lset_head, hlt] at this
      | some s =>
        obtain ⟨hs, hps, hmin⟩ := fsF_some hfs
        simp only [Bool.and_eq_true, decide_eq_true_eq] at hps
        obtain ⟨hb, hle⟩ := hps
        have hs0 : s ≤ s0 := by
          rcases Nat.lt_or_ge s0 s with h | h
          · have := hmin s0 h
            simp [lset_head, hlt] at this
          · exact h
        have key : ∃ r1 b1, vld n ah (s :: r1) ∧ lset (s :: r1) = lset (s0 :: r0) ∧ (stp F La Sv s (t + Wy p s)).bind (fun t' => fwd Wy F La Sv r1 t' s) = some b1 ∧ b1 ≤ B ∧ (s = s0 → r1 = r0) := by
          by_cases hss : s = s0
          · subst hss
            exact ⟨r0, b, hv, rfl, hf, hB, fun _ => rfl⟩
          · obtain ⟨r1, b1, v1, v2, v3, v4⟩ := lt_has n Wy F La Sv ah B hM hn hT hF hS hW _ _ s (t + Wy p s) (Nat.le_refl _) hm hb (by have := hW p s; omega) hle
            exact ⟨r1, b1, v1, v2, v3, v4, fun h => absurd h hss⟩
        obtain ⟨r1, b1, v1, v2, v3, v4, v5⟩ := key
        have hst : stp F La Sv s (t + Wy p s) = some (max (t + Wy p s) (F s) + Sv s) := by
          unfold stp at v3 ⊢
          split at v3
          · cases v3
          · rename_i h; rw [if_neg h]
        rw [hst] at v3
        simp only [Option.bind_some] at v3
        have hl1 : r1.length ≤ k := by
          have a1 := vld_len v1
          have a2 := vld_len hv
          rw [v2, ← a2] at a1
          simp at a1 hlen
          omega
        have e1 : wo (lset (s0 :: r0)) s = lset r1 := by rw [← v2]; exact wo_wi v1.2.1
        obtain ⟨b', w1, w2, w3, w4, w5⟩ := ih r1 s _ b1 v1.2.2.2 hl1 (by have := hS s hs; have := hW p s; omega) (by rw [← e1]; exact hM _ s hm hb) v3 v4
        unfold drv
        rw [hfs]
        dsimp only
        rw [e1]
        refine ⟨b', ⟨hs, by rw [w2]; exact v1.2.1, by rw [w2]; exact v1.2.2.1, w1⟩, ?_, ?_, w4, ?_⟩
        · show wi (lset _) s = _
          rw [w2]; exact v2
        · show (stp F La Sv s (t + Wy p s)).bind _ = _
          rw [hst]; exact w3
        · rcases Nat.lt_or_ge s s0 with h | h
          · exact Or.inl h
          · have hss : s = s0 := by omega
            exact Or.inr ⟨hss, by rw [← v5 hss]; exact w5⟩
end Drive
end
section
/-! THE CHEAPEST PLAN: parts of a set, one vehicle after the other -/
theorem sub_next0 : ((List.range 128).all fun S => (List.range 128).all fun Q => !((Q &&& S == Q) && Nat.blt 0 Q) || (List.range Q).all fun P => !(P &&& S == P) || Nat.ble P ((Q - 1) &&& S)) = true := by decide +kernel
theorem sub_next (S : Nat) (hS : S < 128) (Q : Nat) (hQ : Q < 128) (h1 : Q &&& S = Q) (h2 : 0 < Q) (P : Nat) (hP : P < Q) (h3 : P &&& S = P) : P ≤ (Q - 1) &&& S := by
  have h := List.all_eq_true.mp (List.all_eq_true.mp sub_next0 S (List.mem_range.mpr hS)) Q (List.mem_range.mpr hQ)
  have hb : ((Q &&& S == Q) && Nat.blt 0 Q) = true := by
    rw [h1, Bool.and_eq_true]
    exact ⟨by simp, by simp [Nat.blt_eq, h2]⟩
  rw [hb, Bool.not_true, Bool.false_or] at h
  have h4 := List.all_eq_true.mp h P (List.mem_range.mpr hP)
  have h5 : (P &&& S == P) = true := by rw [h3]; simp
  rw [h5, Bool.not_true, Bool.false_or] at h4
  exact Nat.le_of_ble_eq_true h4
/-- the class's loop over the parts of S, from Q down -/
def lwF (S : Nat) (pr g : Nat → Int) : Nat → Nat → Int → Int
  | 0, _, x => x
  | k + 1, Q, x => if Q = 0 then x else lwF S pr g k ((Q - 1) &&& S) (min x (pr Q + g (S - Q)))
theorem lwF_x {S : Nat} {pr g : Nat → Int} : ∀ (k Q : Nat) (x : Int), lwF S pr g k Q x ≤ x := by
  intro k
  induction k with
  | zero => intro Q x; exact Int.le_refl x
  | succ k ih =>
    intro Q x
    unfold lwF
    split
    · exact Int.le_refl x
    · have := ih ((Q - 1) &&& S) (min x (pr Q + g (S - Q)))
      omega
theorem lwF_le {S : Nat} (hS : S < 128) {pr g : Nat → Int} : ∀ (k Q : Nat) (x : Int), Q ≤ k → Q < 128 → Q &&& S = Q → ∀ P, 0 < P → P ≤ Q → P &&& S = P → lwF S pr g k Q x ≤ pr P + g (S - P) := by
  intro k
  induction k with
  | zero => intro Q x hk _ _ P h1 h2; omega
  | succ k ih =>
    intro Q x hk hQ hQS P h1 h2 h3
    unfold lwF
    rw [if_neg (by omega)]
    by_cases h : P = Q
    · subst h
      have := lwF_x (S := S) (pr := pr) (g := g) k ((P - 1) &&& S) (min x (pr P + g (S - P)))
      omega
    · have hle := sub_next S hS Q hQ hQS (by omega) P (by omega) h3
      have hlt : (Q - 1) &&& S ≤ Q - 1 := Nat.and_le_left
      exact ih ((Q - 1) &&& S) _ (by omega) (by omega) (by rw [Nat.and_assoc, Nat.and_self]) P h1 hle h3
theorem lwF_ex {S : Nat} {pr g : Nat → Int} : ∀ (k Q : Nat) (x : Int), Q &&& S = Q → lwF S pr g k Q x = x ∨ ∃ P, 0 < P ∧ P &&& S = P ∧ lwF S pr g k Q x = pr P + g (S - P) := by
  intro k
  induction k with
  | zero => intro Q x _; exact Or.inl rfl
  | succ k ih =>
    intro Q x hQ
    unfold lwF
    by_cases h : Q = 0
    · rw [if_pos h]; exact Or.inl rfl
    · rw [if_neg h]
      rcases ih ((Q - 1) &&& S) (min x (pr Q + g (S - Q))) (by rw [Nat.and_assoc, Nat.and_self]) with e | ⟨P, p1, p2, p3⟩
      · by_cases h1 : x ≤ pr Q + g (S - Q)
        · rw [Int.min_eq_left h1] at e ⊢
          exact Or.inl e
        · rw [Int.min_eq_right (by omega)] at e ⊢
          exact Or.inr ⟨Q, by omega, hQ, e⟩
      · exact Or.inr ⟨P, p1, p2, p3⟩
/-- the least price of a set by these vehicles, the last one first -/
def lsV (pr : Nat → Nat → Int) (sk : Nat → Int) : List Nat → Nat → Int
  | [], S => sk S
  | v :: vs, S => lwF S (pr v) (lsV pr sk vs) S S (lsV pr sk vs S)
/-- the stops below n of which P holds, as a set -/
def bts (P : Nat → Bool) : Nat → Nat
  | 0 => 0
  | k + 1 => if P k = true then wi (bts P k) k else bts P k
theorem bts_bit (P : Nat → Bool) : ∀ n i, (bts P n).testBit i = (decide (i < n) && P i) := by
  intro n
  induction n with
  | zero => intro i; simp [bts]
  | succ k ih =>
    intro i
    unfold bts
    split
    · rename_i h
      rw [wi_bit, ih]
      by_cases h1 : k = i
      · subst h1; simp [h]
      · have : (i < k + 1) = (i < k) := by apply propext; omega
        simp [h1, this]
    · rename_i h
      rw [ih]
      by_cases h1 : k = i
      · subst h1
        have : P k = false := by cases hp : P k <;> simp_all
        simp [this]
      · have : (i < k + 1) = (i < k) := by apply propext; omega
        simp [this]
/-- a plan: f gives each stop a vehicle (or another number: skipped); what it costs over S by these vehicles -/
def prt (n : Nat) (f : Nat → Nat) (v S : Nat) : Nat := bts (fun i => S.testBit i && decide (f i = v)) n
def cst (pr : Nat → Nat → Int) (sk : Nat → Int) (n : Nat) : List Nat → (Nat → Nat) → Nat → Int
  | [], _, S => sk S
  | v :: vs, f, S => (if prt n f v S = 0 then 0 else pr v (prt n f v S)) + cst pr sk n vs f (S - prt n f v S)
theorem prt_bit (n : Nat) (f : Nat → Nat) (v S i : Nat) : (prt n f v S).testBit i = (decide (i < n) && (S.testBit i && decide (f i = v))) := bts_bit _ n i
theorem prt_sub (n : Nat) (f : Nat → Nat) (v S : Nat) : prt n f v S &&& S = prt n f v S := by
  apply Nat.eq_of_testBit_eq
  intro i
  rw [Nat.testBit_and, prt_bit]
  cases S.testBit i <;> simp
theorem prt_congr {n : Nat} {f g : Nat → Nat} {v S : Nat} (h : ∀ i, i < n → S.testBit i = true → (f i = v ↔ g i = v)) : prt n f v S = prt n g v S := by
  apply Nat.eq_of_testBit_eq
  intro i
  rw [prt_bit, prt_bit]
  by_cases h1 : i < n
  · cases h2 : S.testBit i with
    | false => simp
    | true => simp [h1, h i h1 h2]
  · simp [h1]
theorem cst_congr {pr : Nat → Nat → Int} {sk : Nat → Int} {n : Nat} : ∀ (vs : List Nat) {f g : Nat → Nat} (S : Nat), (∀ i, i < n → S.testBit i = true → f i = g i) → cst pr sk n vs f S = cst pr sk n vs g S
  | [], _, _, _, _ => rfl
  | v :: vs, f, g, S, h => by
    have e : prt n f v S = prt n g v S := prt_congr (fun i h1 h2 => by rw [h i h1 h2])
    unfold cst
    rw [e, cst_congr vs (S - prt n g v S) (fun i h1 h2 => h i h1 (by
      rw [sub_bit (prt_sub n g v S)] at h2
      simp at h2
      exact h2.1))]
theorem lsV_le {pr : Nat → Nat → Int} {sk : Nat → Int} {n : Nat} : ∀ (vs : List Nat) (f : Nat → Nat) (S : Nat), S < 128 → lsV pr sk vs S ≤ cst pr sk n vs f S
  | [], _, _, _ => Int.le_refl _
  | v :: vs, f, S, hS => by
    unfold lsV cst
    have hsub := prt_sub n f v S
    have hP : prt n f v S ≤ S := by rw [← hsub]; exact Nat.and_le_right
    have ih := lsV_le (pr := pr) (sk := sk) (n := n) vs f (S - prt n f v S) (by omega)
    by_cases h : prt n f v S = 0
    · rw [if_pos h]
      rw [h] at ih ⊢
      have := lwF_x (S := S) (pr := pr v) (g := lsV pr sk vs) S S (lsV pr sk vs S)
      simp only [Nat.sub_zero] at ih ⊢
      omega
    · rw [if_neg h]
      have := lwF_le hS (pr := pr v) (g := lsV pr sk vs) S S (lsV pr sk vs S) (Nat.le_refl _) hS (Nat.and_self S) (prt n f v S) (by omega) hP hsub
      omega
theorem lsV_ex {pr : Nat → Nat → Int} {sk : Nat → Int} {n : Nat} (z : Nat) : ∀ (vs : List Nat), vs.Nodup → z ∉ vs → ∀ S, S < 2 ^ n → ∃ f : Nat → Nat, (∀ i, f i ∈ vs ∨ f i = z) ∧ lsV pr sk vs S = cst pr sk n vs f S
  | [], _, _, S, _ => ⟨fun _ => z, fun _ => Or.inr rfl, rfl⟩
  | v :: vs, hnd, hz, S, hS => by
    have hv : v ∉ vs := (List.nodup_cons.mp hnd).1
    have hzv : z ≠ v := fun h => hz (by rw [h]; exact List.mem_cons_self)
    have hz' : z ∉ vs := fun h => hz (List.mem_cons_of_mem _ h)
    unfold lsV
    rcases lwF_ex (S := S) (pr := pr v) (g := lsV pr sk vs) S S (lsV pr sk vs S) (Nat.and_self S) with e | ⟨P, p1, p2, e⟩
    · obtain ⟨f, f1, f2⟩ := lsV_ex (pr := pr) (sk := sk) (n := n) z vs (List.nodup_cons.mp hnd).2 hz' S hS
      refine ⟨f, fun i => ?_, ?_⟩
      · rcases f1 i with h | h
        · exact Or.inl (List.mem_cons_of_mem _ h)
        · exact Or.inr h
      · have h0 : prt n f v S = 0 := by
          apply Nat.eq_of_testBit_eq
          intro i
          rw [prt_bit, Nat.zero_testBit]
          have : f i ≠ v := by
            intro h
            rcases f1 i with h1 | h1
            · exact hv (by rw [← h]; exact h1)
            · exact hzv (by rw [← h1]; exact h)
          simp [this]
        unfold cst
        rw [h0, if_pos rfl, e, f2, Nat.sub_zero]
        omega
    · have hPS : P ≤ S := by rw [← p2]; exact Nat.and_le_right
      obtain ⟨f, f1, f2⟩ := lsV_ex (pr := pr) (sk := sk) (n := n) z vs (List.nodup_cons.mp hnd).2 hz' (S - P) (by omega)
      refine ⟨fun i => if P.testBit i = true then v else f i, fun i => ?_, ?_⟩
      · dsimp only
        split
        · exact Or.inl List.mem_cons_self
        · rcases f1 i with h | h
          · exact Or.inl (List.mem_cons_of_mem _ h)
          · exact Or.inr h
      · have h0 : prt n (fun i => if P.testBit i = true then v else f i) v S = P := by
          apply Nat.eq_of_testBit_eq
          intro i
          rw [prt_bit]
          cases hp : P.testBit i with
          | true =>
            have h1 : S.testBit i = true := by
              rw [← p2, Nat.testBit_and] at hp
              simp at hp
              exact hp.2
            have h2 : i < n := by
              rcases Nat.lt_or_ge i n with h | h
              · exact h
              · have := Nat.testBit_lt_two_pow (Nat.lt_of_lt_of_le hS (Nat.pow_le_pow_right (by omega) h))
                rw [this] at h1; cases h1
            simp [h1, h2]
          | false =>
            have : f i ≠ v := by
              intro h
              rcases f1 i with h1 | h1
              · exact hv (by rw [← h]; exact h1)
              · exact hzv (by rw [← h1]; exact h)
            simp [this]
        unfold cst
        rw [h0, if_neg (by omega), e, f2]
        congr 1
        refine cst_congr vs (S - P) (fun i _ h2 => ?_)
        rw [sub_bit p2] at h2
        simp at h2
        simp [h2.2]
end
section
/-- a loop upward -/
theorem loopUp {n : Nat} {P : Nat → Prop} (h : ∀ i, i ≤ n → (i < n → P (i + 1)) → P i) : ∀ i, i ≤ n → P i := by
  intro i hi
  induction hk : n - i generalizing i with
  | zero => exact h i hi (fun z => absurd z (by omega))
  | succ k ih => exact h i hi (fun z => ih (i + 1) z (by omega))
/-- one bit of a set -/
theorem tb_0 {S s : Nat} : ((S / 2 ^ s &&& 1 : Nat) : Int) = 0 ↔ ¬ S.testBit s = true := by
  rw [Nat.testBit, Nat.shiftRight_eq_div_pow, Nat.and_comm 1]
  constructor
  · intro h
    have : S / 2 ^ s &&& 1 = 0 := by omega
    simp [this]
  · intro h
    have h1 : S / 2 ^ s &&& 1 = 0 := by simpa using h
    rw [h1]; rfl
theorem zI_wo : ∀ S, S < 128 → ∀ s, s < 7 → zI ((S : Nat) : Int) &&& (zI ((2 ^ s : Nat) : Int) ^^^ zI (-1)) = zI ((wo S s : Nat) : Int) := by decide +kernel
theorem zI_not : ∀ x, x < 128 → zI ((x : Nat) : Int) ^^^ zI (-1) = zI (-1 - (x : Int)) := by decide +kernel
theorem zI_wo1 : ∀ S, S < 128 → ∀ s, s < 7 → zI ((S : Nat) : Int) &&& zI (-1 - ((2 ^ s : Nat) : Int)) = zI ((wo S s : Nat) : Int) := by decide +kernel
theorem zB_t {P : Prop} [Decidable P] (h : P) : 1 = zB P := by unfold zB; rw [if_pos h]
theorem zB_f {P : Prop} [Decidable P] (h : ¬ P) : 0 = zB P := by unfold zB; rw [if_neg h]
theorem zI_wi {S s : Nat} : zI (S : Int) ||| zI ((2 ^ s : Nat) : Int) = zI ((wi S s : Nat) : Int) := zI_or S (2 ^ s)
theorem zI_shl1 {s : Nat} (h : s < 31) : zI 1 <<< (zI (s : Int) &&& 31) = zI ((2 ^ s : Nat) : Int) := by
  have h1 : 1 * 2 ^ s < 2 ^ 32 := by
    rw [Nat.one_mul]; exact Nat.pow_lt_pow_right (by omega) (by omega)
  have := zI_shl (n := 1) (k := s) (by omega) h1
  rw [Nat.one_mul] at this
  exact this
end
section
/-- the store, said otherwise -/
theorem V_ss {p : Program} {l : Launch} {e : Env} {R : Room} {s : State} {m : MethodId} {args : Array Value} {below : List Frame} {meth : Method} {c : Code} {nL : Nat} {w : zW} {L : zY} {cl : List vw_C} {kc ks : Nat} {Q : State → Prop} {pc : Nat} {lv : List (Nat × Value)} {st : List Value} {σ σ' : Nat → Nat → Int} (h : σ = σ') (k : V p l e R s m args below meth c nL w L cl kc ks Q pc lv st σ') : V p l e R s m args below meth c nL w L cl kc ks Q pc lv st σ := h ▸ k
theorem V_ldcw {p : Program} {l : Launch} {e : Env} {R : Room} {s : State} {m : MethodId} {args : Array Value} {below : List Frame} {meth : Method} {c : Code} {nL : Nat} {w : zW} {L : zY} {cl : List vw_C} {kc ks : Nat} {Q : State → Prop} {cc : ByteArray} {own : String} {pc : Nat} {lv : List (Nat × Value)} {st : List Value} {σ : Nat → Nat → Int} (C : zC p s m args meth c cc nL own w L cl) {ix : Nat} (z : Int) (hd : decode cc pc = .ok (.ldc_w ix, 3)) (hc : Jvm.Cond.constant own ix (zI z) ∈ zT) (k : V p l e R s m args below meth c nL w L cl kc ks Q (pc + 3) lv (.int (zI z) :: st) σ) : V p l e R s m args below meth c nL w L cl kc ks Q pc lv st σ :=
  fun ls H locs hl hP hS => lv_ldcw C.1 C.2.1 C.2.2.2.1 (C.2.2.2.2.1 _ hc) hd (k ls H locs hl hP hS)
theorem zI_ul : ∀ k, k < 32 → (((zI ((k : Nat) : Int)).toUInt32 &&& Int32.toUInt32 31).toBitVec % 32).toNat = k := by decide +kernel
theorem zI_ushr {n k : Nat} (hn : n < 2 ^ 32) (hk : k < 32) : ((zI (n : Int)).toUInt32 >>> ((zI (k : Int)).toUInt32 &&& Int32.toUInt32 31)).toInt32 = zI ((n / 2 ^ k : Nat) : Int) := by
  rw [zI_nat n, zI_nat (n / 2 ^ k)]
  exact pk_ushrN hn _ k (zI_ul k hk)
end
section
/-! THE CLASS'S STATE, in words: n stops, nv vehicles; what was told lies in cells 1 to 16 -/
def bd (σ : Nat → Nat → Int) (h k : Nat) (lo hi : Int) : Prop := ∀ i, i < k → lo ≤ σ h i ∧ σ h i ≤ hi
def tI (σ : Nat → Nat → Int) (n nv : Nat) : Prop := σ 1 0 = (n : Int) ∧ n ≤ 7 ∧ σ 1 1 = (nv : Int) ∧ nv ≤ 3 ∧ bd σ 2 7 0 100000 ∧ bd σ 3 7 0 86399 ∧ bd σ 4 7 0 86399 ∧ bd σ 5 7 0 10000 ∧ bd σ 6 7 0 1000000000 ∧ bd σ 7 7 (-1) 2 ∧ bd σ 8 7 0 127 ∧ bd σ 9 7 0 127 ∧ bd σ 10 7 0 127 ∧ bd σ 11 7 0 127 ∧ bd σ 12 3 0 1000000 ∧ bd σ 13 3 0 86399 ∧ bd σ 14 3 0 86399 ∧ bd σ 15 3 0 1000 ∧ bd σ 16 64 0 50000
theorem tI.congr {σ σ' : Nat → Nat → Int} {n nv : Nat} (h : tI σ n nv) (e : ∀ k, k ≤ 16 → σ' k = σ k) : tI σ' n nv := by
  unfold tI bd at h ⊢
  simp only [e 1 (by omega), e 2 (by omega), e 3 (by omega), e 4 (by omega), e 5 (by omega), e 6 (by omega), e 7 (by omega), e 8 (by omega), e 9 (by omega), e 10 (by omega), e 11 (by omega), e 12 (by omega), e 13 (by omega), e 14 (by omega), e 15 (by omega), e 16 (by omega)]
  exact h
/-- before(): who is reached -/
def rcF (σ : Nat → Nat → Int) (a more : Nat) : Nat → Nat → Nat → Int
  | 0 => σ
  | i + 1 => if i = a ∨ (σ 11 i).toNat.testBit a = true then zU (rcF σ a more i) 11 i (((σ 11 i).toNat ||| more : Nat) : Int) else rcF σ a more i
theorem rcF_ne {σ : Nat → Nat → Int} {a more k : Nat} (hk : k ≠ 11) : ∀ i, rcF σ a more i k = σ k
  | 0 => rfl
  | i + 1 => by
    unfold rcF
    split
    · rw [zU_ne hk, rcF_ne hk i]
    · exact rcF_ne hk i
theorem rcF_hi {σ : Nat → Nat → Int} {a more : Nat} : ∀ i j, i ≤ j → rcF σ a more i 11 j = σ 11 j
  | 0, _, _ => rfl
  | i + 1, j, h => by
    unfold rcF
    split
    · rw [zU_nj (by omega), rcF_hi i j (by omega)]
    · exact rcF_hi i j (by omega)
def apF (t : Int) (S s : Nat) : Nat := if t ≠ 0 then wi S s else wo S s
def sApart (σ : Nat → Nat → Int) (a b : Nat) (t : Int) : Nat → Nat → Int := zU (zU σ 8 a (apF t (σ 8 a).toNat b : Nat)) 8 b (apF t (σ 8 b).toNat a : Nat)
def sBef0 (σ : Nat → Nat → Int) (a b : Nat) : Nat → Nat → Int := zU (zU σ 10 a (wi (σ 10 a).toNat b : Nat)) 9 b (wi (σ 9 b).toNat a : Nat)
def sBefore (σ : Nat → Nat → Int) (n a b : Nat) : Nat → Nat → Int := rcF (sBef0 σ a b) a (wi (σ 11 b).toNat b) n
end
section
/-! rooms, then the small methods -/
def rm_rp_stop : Room := { frames := 1, cells := 0, slots := 0, locals := 21 }
def rm_rp_hours : Room := { frames := 1, cells := 0, slots := 0, locals := 21 }
def rm_rp_penalty : Room := { frames := 1, cells := 0, slots := 0, locals := 21 }
def rm_rp_vehicle : Room := { frames := 1, cells := 0, slots := 0, locals := 24 }
def rm_rp_way : Room := { frames := 1, cells := 0, slots := 0, locals := 21 }
def rm_rp_fixed : Room := { frames := 1, cells := 0, slots := 0, locals := 21 }
def rm_rp_apart : Room := { frames := 2, cells := 0, slots := 0, locals := 44 }
def rm_rp_before : Room := { frames := 2, cells := 0, slots := 0, locals := 45 }
def rm_rp_run : Room := { frames := 4, cells := 0, slots := 0, locals := 102 }
def rm_rp_cost : Room := { frames := 0, cells := 0, slots := 0, locals := 0 }
def rm_rp_vehicleOf : Room := { frames := 1, cells := 0, slots := 0, locals := 21 }
def rm_rp_at : Room := { frames := 1, cells := 0, slots := 0, locals := 21 }
def rm_rp_begun : Room := { frames := 1, cells := 0, slots := 0, locals := 21 }
def rm_rp_back : Room := { frames := 1, cells := 0, slots := 0, locals := 21 }
def rm_rp_saved : Room := { frames := 1, cells := 0, slots := 0, locals := 21 }
def rm_rp_isWithin : Room := { frames := 0, cells := 0, slots := 0, locals := 0 }
def rm_rp_isSpan : Room := { frames := 0, cells := 0, slots := 0, locals := 0 }
def rm_rp_holds : Room := { frames := 0, cells := 0, slots := 0, locals := 0 }
def rm_rp_with : Room := { frames := 0, cells := 0, slots := 0, locals := 0 }
def rm_rp_without : Room := { frames := 0, cells := 0, slots := 0, locals := 0 }
def rm_rp_codeShift : Room := { frames := 0, cells := 0, slots := 0, locals := 0 }
def rm_rp_costIn : Room := { frames := 0, cells := 0, slots := 0, locals := 0 }
def rm_rp_vehicleIn : Room := { frames := 1, cells := 0, slots := 0, locals := 20 }
def rm_rp_setIn : Room := { frames := 2, cells := 0, slots := 0, locals := 42 }
def rm_md_isIn : Room := { frames := 0, cells := 0, slots := 0, locals := 0 }
def rm_md_isStop : Room := { frames := 0, cells := 0, slots := 0, locals := 0 }
def rm_md_arePair : Room := { frames := 1, cells := 0, slots := 0, locals := 21 }
def rm_md_stop : Room := { frames := 1, cells := 0, slots := 0, locals := 25 }
def rm_md_hours : Room := { frames := 1, cells := 0, slots := 0, locals := 25 }
def rm_md_penalty : Room := { frames := 1, cells := 0, slots := 0, locals := 25 }
def rm_md_vehicle : Room := { frames := 1, cells := 0, slots := 0, locals := 25 }
def rm_md_way : Room := { frames := 1, cells := 0, slots := 0, locals := 25 }
def rm_md_fixed : Room := { frames := 1, cells := 0, slots := 0, locals := 21 }
def rm_md_apart : Room := { frames := 2, cells := 0, slots := 0, locals := 43 }
def rm_md_leads : Room := { frames := 0, cells := 0, slots := 0, locals := 0 }
def rm_md_before : Room := { frames := 2, cells := 0, slots := 0, locals := 43 }
def rm_md_mayFollow : Room := { frames := 0, cells := 0, slots := 0, locals := 0 }
def rm_md_drive : Room := { frames := 0, cells := 0, slots := 0, locals := 0 }
def rm_md_setOf : Room := { frames := 0, cells := 0, slots := 0, locals := 0 }
def rm_md_rowOf : Room := { frames := 0, cells := 0, slots := 0, locals := 0 }
def rm_md_driveAll : Room := { frames := 2, cells := 0, slots := 0, locals := 51 }
def rm_md_keep : Room := { frames := 1, cells := 0, slots := 0, locals := 27 }
def rm_md_digit : Room := { frames := 0, cells := 0, slots := 0, locals := 0 }
def rm_md_setIn : Room := { frames := 1, cells := 0, slots := 0, locals := 21 }
def rm_md_costOf : Room := { frames := 2, cells := 0, slots := 0, locals := 45 }
def rm_md_bestPlan : Room := { frames := 3, cells := 0, slots := 0, locals := 71 }
def rm_md_run : Room := { frames := 4, cells := 0, slots := 0, locals := 98 }
def rm_md_tellRound : Room := { frames := 1, cells := 0, slots := 0, locals := 27 }
def rm_md_cost : Room := { frames := 0, cells := 0, slots := 0, locals := 0 }
def rm_md_vehicleOf : Room := { frames := 0, cells := 0, slots := 0, locals := 0 }
def rm_md_at : Room := { frames := 0, cells := 0, slots := 0, locals := 0 }
def rm_md_begun : Room := { frames := 0, cells := 0, slots := 0, locals := 0 }
def rm_md_back : Room := { frames := 0, cells := 0, slots := 0, locals := 0 }
def rm_md_saved : Room := { frames := 0, cells := 0, slots := 0, locals := 0 }
def rm_fd_hasStop : Room := { frames := 0, cells := 0, slots := 0, locals := 0 }
def rm_fd_hasVehicle : Room := { frames := 0, cells := 0, slots := 0, locals := 0 }
def rm_fd_take : Room := { frames := 2, cells := 0, slots := 0, locals := 42 }
def rm_fd_note : Room := { frames := 0, cells := 0, slots := 0, locals := 0 }
def rm_pl_findPrices : Room := { frames := 2, cells := 0, slots := 0, locals := 49 }
def rm_pl_findPrice : Room := { frames := 1, cells := 0, slots := 0, locals := 22 }
def rm_pl_penaltiesOf : Room := { frames := 1, cells := 0, slots := 0, locals := 21 }
def rm_pl_codeOfOnes : Room := { frames := 1, cells := 0, slots := 0, locals := 21 }
def rm_pl_cheapest : Room := { frames := 3, cells := 0, slots := 0, locals := 71 }
def rm_pl_addRounds : Room := { frames := 2, cells := 0, slots := 0, locals := 48 }
def rm_pl_leastWith : Room := { frames := 1, cells := 0, slots := 0, locals := 23 }
def rm_rd_firstBack : Room := { frames := 0, cells := 0, slots := 0, locals := 0 }
def rm_rd_findBacks : Room := { frames := 3, cells := 0, slots := 0, locals := 75 }
def rm_rd_mayHave : Room := { frames := 1, cells := 0, slots := 0, locals := 21 }
def rm_rd_findBack : Room := { frames := 2, cells := 0, slots := 0, locals := 50 }
def rm_rd_findReady : Room := { frames := 1, cells := 0, slots := 0, locals := 23 }
def rm_rd_drive : Room := { frames := 3, cells := 0, slots := 0, locals := 74 }
def rm_rd_firstInTime : Room := { frames := 1, cells := 0, slots := 0, locals := 22 }
def rm_rd_findLatest : Room := { frames := 2, cells := 0, slots := 0, locals := 50 }
def rm_rd_findLatestAt : Room := { frames := 1, cells := 0, slots := 0, locals := 23 }
def rm_td_hasStop : Room := { frames := 0, cells := 0, slots := 0, locals := 0 }
def rm_td_hasVehicle : Room := { frames := 0, cells := 0, slots := 0, locals := 0 }
def rm_td_areTwoStops : Room := { frames := 1, cells := 0, slots := 0, locals := 21 }
def rm_td_addStop : Room := { frames := 0, cells := 0, slots := 0, locals := 0 }
def rm_td_addVehicle : Room := { frames := 0, cells := 0, slots := 0, locals := 0 }
def rm_td_setApart : Room := { frames := 1, cells := 0, slots := 0, locals := 21 }
def rm_td_setBefore : Room := { frames := 1, cells := 0, slots := 0, locals := 21 }
def rm_td_seconds : Room := { frames := 0, cells := 0, slots := 0, locals := 0 }
def rm_ig_bitCount : Room := { frames := 0, cells := 0, slots := 0, locals := 0 }
def rm_ar_fill : Room := { frames := 0, cells := 0, slots := 0, locals := 0 }

set_option maxRecDepth 20000 in
set_option maxHeartbeats 4000000 in
theorem c_rp_holds (l : Launch) (w : zW) (σ : Nat → Nat → Int) (S s : Nat) (hS : S < 128) (hs : s < 7) : zMi l w LL CC g_rp_holds rm_rp_holds [.int (zI ((S : Int))), .int (zI ((s : Int)))] σ (zB (S.testBit s = true)) (σ) := by
  refine zMi.of g_rp_holds (by decide +kernel) (Nat.le_of_ble_eq_true rfl) rfl ?_
  intro p e u m args below meth c C hr
  have C : zC p u m args meth c prog_1_method_19_code 2 "RoundPlans" w LL CC := C
  have hr : meth.sig.returnType = (some .boolean) := hr
  show V p l e rm_rp_holds u m args below meth c 2 w LL CC 0 0 (MQ below (zQi w LL CC (zB (S.testBit s = true)) (σ) u.heap.size) args u 0 0 (zA w LL.1 u.heap.size)) 0 [(0, .int (zI ((S : Int)))), (1, .int (zI ((s : Int))))] [] σ
  refine V_iload_n C d_rp_holds_0 0 rfl ?_
  refine V_iload_n C d_rp_holds_1 1 rfl ?_
  refine V_ishr C (((S / 2 ^ s : Nat) : Int)) d_rp_holds_2 (zI_shr (by omega) (by omega)) ?_
  refine V_iconst C d_rp_holds_3 ?_
  refine V_iand C (((S / 2 ^ s &&& 1 : Nat) : Int)) d_rp_holds_4 (zI_and (S / 2 ^ s) 1) ?_
  have hb : S / 2 ^ s &&& 1 ≤ 1 := Nat.and_le_right
  refine V_ifeq C 12 d_rp_holds_5 (by decide) ⟨by omega, by omega⟩ (fun h1 => ?_) (fun h1 => ?_)
  · refine V_iconst C d_rp_holds_12 ?_
    exact V_zret C hr d_rp_holds_13 (by decide) (zB_f (tb_0.mp h1)) rfl
  · refine V_iconst C d_rp_holds_8 ?_
    refine V_goto C 13 d_rp_holds_9 (by decide) ?_
    exact V_zret C hr d_rp_holds_13 (by decide) (zB_t (Decidable.byContradiction fun z => h1 (tb_0.mpr z))) rfl

set_option maxRecDepth 20000 in
set_option maxHeartbeats 4000000 in
theorem c_rp_with (l : Launch) (w : zW) (σ : Nat → Nat → Int) (S s : Nat) (hs : s < 7) : zMi l w LL CC g_rp_with rm_rp_with [.int (zI ((S : Int))), .int (zI ((s : Int)))] σ (((wi S s : Nat) : Int)) (σ) := by
  refine zMi.of g_rp_with (by decide +kernel) (Nat.le_of_ble_eq_true rfl) rfl ?_
  intro p e u m args below meth c C hr
  have C : zC p u m args meth c prog_1_method_20_code 2 "RoundPlans" w LL CC := C
  have hr : meth.sig.returnType = (some .int) := hr
  show V p l e rm_rp_with u m args below meth c 2 w LL CC 0 0 (MQ below (zQi w LL CC (((wi S s : Nat) : Int)) (σ) u.heap.size) args u 0 0 (zA w LL.1 u.heap.size)) 0 [(0, .int (zI ((S : Int)))), (1, .int (zI ((s : Int))))] [] σ
  refine V_iload_n C d_rp_with_0 0 rfl ?_
  refine V_iconst C d_rp_with_1 ?_
  refine V_iload_n C d_rp_with_2 1 rfl ?_
  refine V_ishl C (((2 ^ s : Nat) : Int)) d_rp_with_3 (zI_shl1 (by omega)) ?_
  refine V_ior C (((wi S s : Nat) : Int)) d_rp_with_4 zI_wi ?_
  exact V_iret C hr d_rp_with_5 rfl rfl

set_option maxRecDepth 20000 in
set_option maxHeartbeats 4000000 in
theorem c_rp_without (l : Launch) (w : zW) (σ : Nat → Nat → Int) (S s : Nat) (hS : S < 128) (hs : s < 7) : zMi l w LL CC g_rp_without rm_rp_without [.int (zI ((S : Int))), .int (zI ((s : Int)))] σ (((wo S s : Nat) : Int)) (σ) := by
  refine zMi.of g_rp_without (by decide +kernel) (Nat.le_of_ble_eq_true rfl) rfl ?_
  intro p e u m args below meth c C hr
  have C : zC p u m args meth c prog_1_method_21_code 2 "RoundPlans" w LL CC := C
  have hr : meth.sig.returnType = (some .int) := hr
  show V p l e rm_rp_without u m args below meth c 2 w LL CC 0 0 (MQ below (zQi w LL CC (((wo S s : Nat) : Int)) (σ) u.heap.size) args u 0 0 (zA w LL.1 u.heap.size)) 0 [(0, .int (zI ((S : Int)))), (1, .int (zI ((s : Int))))] [] σ
  refine V_iload_n C d_rp_without_0 0 rfl ?_
  refine V_iconst C d_rp_without_1 ?_
  refine V_iload_n C d_rp_without_2 1 rfl ?_
  refine V_ishl C (((2 ^ s : Nat) : Int)) d_rp_without_3 (zI_shl1 (by omega)) ?_
  have h2 : 2 ^ s < 2 ^ 7 := Nat.pow_lt_pow_right (by omega) hs
  refine V_iconst C d_rp_without_4 ?_
  refine V_ixor C (-1 - ((2 ^ s : Nat) : Int)) d_rp_without_5 (zI_not (2 ^ s) (by omega)) ?_
  refine V_iand C (((wo S s : Nat) : Int)) d_rp_without_6 (zI_wo1 S hS s hs) ?_
  exact V_iret C hr d_rp_without_7 rfl rfl

set_option maxRecDepth 20000 in
set_option maxHeartbeats 4000000 in
theorem c_rp_isWithin (l : Launch) (w : zW) (σ : Nat → Nat → Int) (a b : Int) (ha : rI a) (hb : rI b) : zMi l w LL CC g_rp_isWithin rm_rp_isWithin [.int (zI (a)), .int (zI (b))] σ (zB (0 ≤ a ∧ a ≤ b)) (σ) := by
  refine zMi.of g_rp_isWithin (by decide +kernel) (Nat.le_of_ble_eq_true rfl) rfl ?_
  intro p e u m args below meth c C hr
  have C : zC p u m args meth c prog_1_method_17_code 2 "RoundPlans" w LL CC := C
  have hr : meth.sig.returnType = (some .boolean) := hr
  show V p l e rm_rp_isWithin u m args below meth c 2 w LL CC 0 0 (MQ below (zQi w LL CC (zB (0 ≤ a ∧ a ≤ b)) (σ) u.heap.size) args u 0 0 (zA w LL.1 u.heap.size)) 0 [(0, .int (zI (a))), (1, .int (zI (b)))] [] σ
  refine V_iload_n C d_rp_isWithin_0 0 rfl ?_
  refine V_iflt C 13 d_rp_isWithin_1 (by decide) ha (fun h1 => ?_) (fun h1 => ?_)
  · refine V_iconst C d_rp_isWithin_13 ?_
    exact V_zret C hr d_rp_isWithin_14 (by decide) (by first | exact zB_t (by omega) | exact zB_f (by omega)) rfl
  · refine V_iload_n C d_rp_isWithin_4 0 rfl ?_
    refine V_iload_n C d_rp_isWithin_5 1 rfl ?_
    refine V_cmpgt C 13 d_rp_isWithin_6 (by decide) ha hb (fun h2 => ?_) (fun h2 => ?_)
    · refine V_iconst C d_rp_isWithin_13 ?_
      exact V_zret C hr d_rp_isWithin_14 (by decide) (by first | exact zB_t (by omega) | exact zB_f (by omega)) rfl
    · refine V_iconst C d_rp_isWithin_9 ?_
      refine V_goto C 14 d_rp_isWithin_10 (by decide) ?_
      exact V_zret C hr d_rp_isWithin_14 (by decide) (by first | exact zB_t (by omega) | exact zB_f (by omega)) rfl

set_option maxRecDepth 20000 in
set_option maxHeartbeats 4000000 in
theorem c_rp_isSpan (l : Launch) (w : zW) (σ : Nat → Nat → Int) (a b : Int) (ha : rI a) (hb : rI b) : zMi l w LL CC g_rp_isSpan rm_rp_isSpan [.int (zI (a)), .int (zI (b))] σ (zB (0 ≤ a ∧ a ≤ b ∧ b ≤ 86399)) (σ) := by
  refine zMi.of g_rp_isSpan (by decide +kernel) (Nat.le_of_ble_eq_true rfl) rfl ?_
  intro p e u m args below meth c C hr
  have C : zC p u m args meth c prog_1_method_18_code 2 "RoundPlans" w LL CC := C
  have hr : meth.sig.returnType = (some .boolean) := hr
  obtain ⟨ha1, ha2⟩ := id ha
  obtain ⟨hb1, hb2⟩ := id hb
  show V p l e rm_rp_isSpan u m args below meth c 2 w LL CC 0 0 (MQ below (zQi w LL CC (zB (0 ≤ a ∧ a ≤ b ∧ b ≤ 86399)) (σ) u.heap.size) args u 0 0 (zA w LL.1 u.heap.size)) 0 [(0, .int (zI (a))), (1, .int (zI (b)))] [] σ
  refine V_iload_n C d_rp_isSpan_0 0 rfl ?_
  refine V_iflt C 19 d_rp_isSpan_1 (by decide) ha (fun h1 => ?_) (fun h1 => ?_)
  · refine V_iconst C d_rp_isSpan_19 ?_
    exact V_zret C hr d_rp_isSpan_20 (by decide) (by first | exact zB_t (by omega) | exact zB_f (by omega)) rfl
  · refine V_iload_n C d_rp_isSpan_4 0 rfl ?_
    refine V_iload_n C d_rp_isSpan_5 1 rfl ?_
    refine V_cmpgt C 19 d_rp_isSpan_6 (by decide) ha hb (fun h2 => ?_) (fun h2 => ?_)
    · refine V_iconst C d_rp_isSpan_19 ?_
      exact V_zret C hr d_rp_isSpan_20 (by decide) (by first | exact zB_t (by omega) | exact zB_f (by omega)) rfl
    · refine V_iload_n C d_rp_isSpan_9 1 rfl ?_
      refine V_ldc C (86399) d_rp_isSpan_10 wd_233 ?_
      refine V_cmpgt C 19 d_rp_isSpan_12 (by decide) hb ⟨by omega, by omega⟩ (fun h3 => ?_) (fun h3 => ?_)
      · refine V_iconst C d_rp_isSpan_19 ?_
        exact V_zret C hr d_rp_isSpan_20 (by decide) (by first | exact zB_t (by omega) | exact zB_f (by omega)) rfl
      · refine V_iconst C d_rp_isSpan_15 ?_
        refine V_goto C 20 d_rp_isSpan_16 (by decide) ?_
        exact V_zret C hr d_rp_isSpan_20 (by decide) (by first | exact zB_t (by omega) | exact zB_f (by omega)) rfl

set_option maxRecDepth 20000 in
set_option maxHeartbeats 4000000 in
theorem c_rp_codeShift (l : Launch) (w : zW) (σ : Nat → Nat → Int) (s : Nat) (hs : s < 7) : zMi l w LL CC g_rp_codeShift rm_rp_codeShift [.int (zI ((s : Int)))] σ (((2 * (6 - s) : Nat) : Int)) (σ) := by
  refine zMi.of g_rp_codeShift (by decide +kernel) (Nat.le_of_ble_eq_true rfl) rfl ?_
  intro p e u m args below meth c C hr
  have C : zC p u m args meth c prog_1_method_22_code 1 "RoundPlans" w LL CC := C
  have hr : meth.sig.returnType = (some .int) := hr
  show V p l e rm_rp_codeShift u m args below meth c 1 w LL CC 0 0 (MQ below (zQi w LL CC (((2 * (6 - s) : Nat) : Int)) (σ) u.heap.size) args u 0 0 (zA w LL.1 u.heap.size)) 0 [(0, .int (zI ((s : Int))))] [] σ
  refine V_iconst C d_rp_codeShift_0 ?_
  refine V_bipush C d_rp_codeShift_1 (by decide) ?_
  refine V_iload_n C d_rp_codeShift_3 0 rfl ?_
  refine V_isub C d_rp_codeShift_4 ?_
  refine V_imul C d_rp_codeShift_5 ?_
  exact V_iret C hr d_rp_codeShift_6 (by omega) rfl
end
section
/-! Told, Found: the small methods -/
set_option maxRecDepth 20000 in
set_option maxHeartbeats 4000000 in
theorem c_td_hasStop (l : Launch) (w : zW) (σ : Nat → Nat → Int) (k : Int) (hk : rI k) (n : Nat) (hn : σ 1 0 = (n : Int)) (hn7 : n ≤ 7) : zMi l w LL CC g_td_hasStop rm_td_hasStop [.ref (w.1 1), .int (zI (k))] σ (zB (0 ≤ k ∧ k < n)) (σ) := by
  refine zMi.of g_td_hasStop (by decide +kernel) (Nat.le_of_ble_eq_true rfl) rfl ?_
  intro p e u m args below meth c C hr
  have C : zC p u m args meth c prog_5_method_2_code 2 "RoundPlans$Told" w LL CC := C
  have hr : meth.sig.returnType = (some .boolean) := hr
  obtain ⟨hk1, hk2⟩ := id hk
  show V p l e rm_td_hasStop u m args below meth c 2 w LL CC 0 0 (MQ below (zQi w LL CC (zB (0 ≤ k ∧ k < n)) (σ) u.heap.size) args u 0 0 (zA w LL.1 u.heap.size)) 0 [(0, .ref (w.1 1)), (1, .int (zI (k)))] [] σ
  refine V_iload_n C d_td_hasStop_0 1 rfl ?_
  refine V_iflt C 16 d_td_hasStop_1 (by decide) ⟨by omega, by omega⟩ (fun h1 => ?_) (fun h1 => ?_)
  · refine V_iconst C d_td_hasStop_16 ?_
    exact V_zret C hr d_td_hasStop_17 (by decide) (by first | exact zB_t (by omega) | exact zB_f (by omega)) rfl
  · refine V_iload_n C d_td_hasStop_4 1 rfl ?_
    refine V_aload_n C d_td_hasStop_5 0 rfl ?_
    refine V_geti C 1 0 (by decide) rfl rfl in_td (by decide) rfl wd_30 d_td_hasStop_6 ?_
    refine V_ti hn ?_
    refine V_cmpge C 16 d_td_hasStop_9 (by decide) ⟨by omega, by omega⟩ ⟨by omega, by omega⟩ (fun h2 => ?_) (fun h2 => ?_)
    · refine V_iconst C d_td_hasStop_16 ?_
      exact V_zret C hr d_td_hasStop_17 (by decide) (by first | exact zB_t (by omega) | exact zB_f (by omega)) rfl
    · refine V_iconst C d_td_hasStop_12 ?_
      refine V_goto C 17 d_td_hasStop_13 (by decide) ?_
      exact V_zret C hr d_td_hasStop_17 (by decide) (by first | exact zB_t (by omega) | exact zB_f (by omega)) rfl

set_option maxRecDepth 20000 in
set_option maxHeartbeats 4000000 in
theorem c_td_hasVehicle (l : Launch) (w : zW) (σ : Nat → Nat → Int) (k : Int) (hk : rI k) (n : Nat) (hn : σ 1 1 = (n : Int)) (hn7 : n ≤ 3) : zMi l w LL CC g_td_hasVehicle rm_td_hasVehicle [.ref (w.1 1), .int (zI (k))] σ (zB (0 ≤ k ∧ k < n)) (σ) := by
  refine zMi.of g_td_hasVehicle (by decide +kernel) (Nat.le_of_ble_eq_true rfl) rfl ?_
  intro p e u m args below meth c C hr
  have C : zC p u m args meth c prog_5_method_3_code 2 "RoundPlans$Told" w LL CC := C
  have hr : meth.sig.returnType = (some .boolean) := hr
  obtain ⟨hk1, hk2⟩ := id hk
  show V p l e rm_td_hasVehicle u m args below meth c 2 w LL CC 0 0 (MQ below (zQi w LL CC (zB (0 ≤ k ∧ k < n)) (σ) u.heap.size) args u 0 0 (zA w LL.1 u.heap.size)) 0 [(0, .ref (w.1 1)), (1, .int (zI (k)))] [] σ
  refine V_iload_n C d_td_hasVehicle_0 1 rfl ?_
  refine V_iflt C 16 d_td_hasVehicle_1 (by decide) ⟨by omega, by omega⟩ (fun h1 => ?_) (fun h1 => ?_)
  · refine V_iconst C d_td_hasVehicle_16 ?_
    exact V_zret C hr d_td_hasVehicle_17 (by decide) (by first | exact zB_t (by omega) | exact zB_f (by omega)) rfl
  · refine V_iload_n C d_td_hasVehicle_4 1 rfl ?_
    refine V_aload_n C d_td_hasVehicle_5 0 rfl ?_
    refine V_geti C 1 1 (by decide) rfl rfl in_td (by decide) rfl wd_35 d_td_hasVehicle_6 ?_
    refine V_ti hn ?_
    refine V_cmpge C 16 d_td_hasVehicle_9 (by decide) ⟨by omega, by omega⟩ ⟨by omega, by omega⟩ (fun h2 => ?_) (fun h2 => ?_)
    · refine V_iconst C d_td_hasVehicle_16 ?_
      exact V_zret C hr d_td_hasVehicle_17 (by decide) (by first | exact zB_t (by omega) | exact zB_f (by omega)) rfl
    · refine V_iconst C d_td_hasVehicle_12 ?_
      refine V_goto C 17 d_td_hasVehicle_13 (by decide) ?_
      exact V_zret C hr d_td_hasVehicle_17 (by decide) (by first | exact zB_t (by omega) | exact zB_f (by omega)) rfl

set_option maxRecDepth 20000 in
set_option maxHeartbeats 4000000 in
theorem c_fd_hasStop (l : Launch) (w : zW) (σ : Nat → Nat → Int) (k : Int) (hk : rI k) (n : Nat) (hn : σ 25 0 = (n : Int)) (hn7 : n ≤ 7) : zMi l w LL CC g_fd_hasStop rm_fd_hasStop [.ref (w.1 25), .int (zI (k))] σ (zB (0 ≤ k ∧ k < n)) (σ) := by
  refine zMi.of g_fd_hasStop (by decide +kernel) (Nat.le_of_ble_eq_true rfl) rfl ?_
  intro p e u m args below meth c C hr
  have C : zC p u m args meth c prog_2_method_2_code 2 "RoundPlans$Found" w LL CC := C
  have hr : meth.sig.returnType = (some .boolean) := hr
  obtain ⟨hk1, hk2⟩ := id hk
  show V p l e rm_fd_hasStop u m args below meth c 2 w LL CC 0 0 (MQ below (zQi w LL CC (zB (0 ≤ k ∧ k < n)) (σ) u.heap.size) args u 0 0 (zA w LL.1 u.heap.size)) 0 [(0, .ref (w.1 25)), (1, .int (zI (k)))] [] σ
  refine V_iload_n C d_fd_hasStop_0 1 rfl ?_
  refine V_iflt C 16 d_fd_hasStop_1 (by decide) ⟨by omega, by omega⟩ (fun h1 => ?_) (fun h1 => ?_)
  · refine V_iconst C d_fd_hasStop_16 ?_
    exact V_zret C hr d_fd_hasStop_17 (by decide) (by first | exact zB_t (by omega) | exact zB_f (by omega)) rfl
  · refine V_iload_n C d_fd_hasStop_4 1 rfl ?_
    refine V_aload_n C d_fd_hasStop_5 0 rfl ?_
    refine V_geti C 25 0 (by decide) rfl rfl in_fd (by decide) rfl wd_161 d_fd_hasStop_6 ?_
    refine V_ti hn ?_
    refine V_cmpge C 16 d_fd_hasStop_9 (by decide) ⟨by omega, by omega⟩ ⟨by omega, by omega⟩ (fun h2 => ?_) (fun h2 => ?_)
    · refine V_iconst C d_fd_hasStop_16 ?_
      exact V_zret C hr d_fd_hasStop_17 (by decide) (by first | exact zB_t (by omega) | exact zB_f (by omega)) rfl
    · refine V_iconst C d_fd_hasStop_12 ?_
      refine V_goto C 17 d_fd_hasStop_13 (by decide) ?_
      exact V_zret C hr d_fd_hasStop_17 (by decide) (by first | exact zB_t (by omega) | exact zB_f (by omega)) rfl

set_option maxRecDepth 20000 in
set_option maxHeartbeats 4000000 in
theorem c_fd_hasVehicle (l : Launch) (w : zW) (σ : Nat → Nat → Int) (k : Int) (hk : rI k) (n : Nat) (hn : σ 25 1 = (n : Int)) (hn7 : n ≤ 3) : zMi l w LL CC g_fd_hasVehicle rm_fd_hasVehicle [.ref (w.1 25), .int (zI (k))] σ (zB (0 ≤ k ∧ k < n)) (σ) := by
  refine zMi.of g_fd_hasVehicle (by decide +kernel) (Nat.le_of_ble_eq_true rfl) rfl ?_
  intro p e u m args below meth c C hr
  have C : zC p u m args meth c prog_2_method_3_code 2 "RoundPlans$Found" w LL CC := C
  have hr : meth.sig.returnType = (some .boolean) := hr
  obtain ⟨hk1, hk2⟩ := id hk
  show V p l e rm_fd_hasVehicle u m args below meth c 2 w LL CC 0 0 (MQ below (zQi w LL CC (zB (0 ≤ k ∧ k < n)) (σ) u.heap.size) args u 0 0 (zA w LL.1 u.heap.size)) 0 [(0, .ref (w.1 25)), (1, .int (zI (k)))] [] σ
  refine V_iload_n C d_fd_hasVehicle_0 1 rfl ?_
  refine V_iflt C 16 d_fd_hasVehicle_1 (by decide) ⟨by omega, by omega⟩ (fun h1 => ?_) (fun h1 => ?_)
  · refine V_iconst C d_fd_hasVehicle_16 ?_
    exact V_zret C hr d_fd_hasVehicle_17 (by decide) (by first | exact zB_t (by omega) | exact zB_f (by omega)) rfl
  · refine V_iload_n C d_fd_hasVehicle_4 1 rfl ?_
    refine V_aload_n C d_fd_hasVehicle_5 0 rfl ?_
    refine V_geti C 25 1 (by decide) rfl rfl in_fd (by decide) rfl wd_162 d_fd_hasVehicle_6 ?_
    refine V_ti hn ?_
    refine V_cmpge C 16 d_fd_hasVehicle_9 (by decide) ⟨by omega, by omega⟩ ⟨by omega, by omega⟩ (fun h2 => ?_) (fun h2 => ?_)
    · refine V_iconst C d_fd_hasVehicle_16 ?_
      exact V_zret C hr d_fd_hasVehicle_17 (by decide) (by first | exact zB_t (by omega) | exact zB_f (by omega)) rfl
    · refine V_iconst C d_fd_hasVehicle_12 ?_
      refine V_goto C 17 d_fd_hasVehicle_13 (by decide) ?_
      exact V_zret C hr d_fd_hasVehicle_17 (by decide) (by first | exact zB_t (by omega) | exact zB_f (by omega)) rfl

set_option maxRecDepth 20000 in
set_option maxHeartbeats 4000000 in
theorem c_td_areTwoStops (l : Launch) (w : zW) (σ : Nat → Nat → Int) (a b : Int) (ha : rI a) (hb : rI b) (n : Nat) (hn : σ 1 0 = (n : Int)) (hn7 : n ≤ 7) : zMi l w LL CC g_td_areTwoStops rm_td_areTwoStops [.ref (w.1 1), .int (zI (a)), .int (zI (b))] σ (zB (0 ≤ a ∧ a < n ∧ 0 ≤ b ∧ b < n ∧ a ≠ b)) (σ) := by
  refine zMi.of g_td_areTwoStops (by decide +kernel) (Nat.le_of_ble_eq_true rfl) rfl ?_
  intro p e u m args below meth c C hr
  have C : zC p u m args meth c prog_5_method_4_code 3 "RoundPlans$Told" w LL CC := C
  have hr : meth.sig.returnType = (some .boolean) := hr
  obtain ⟨ha1, ha2⟩ := id ha
  obtain ⟨hb1, hb2⟩ := id hb
  show V p l e rm_td_areTwoStops u m args below meth c 3 w LL CC 0 0 (MQ below (zQi w LL CC (zB (0 ≤ a ∧ a < n ∧ 0 ≤ b ∧ b < n ∧ a ≠ b)) (σ) u.heap.size) args u 0 0 (zA w LL.1 u.heap.size)) 0 [(0, .ref (w.1 1)), (1, .int (zI (a))), (2, .int (zI (b)))] [] σ
  refine V_aload_n C d_td_areTwoStops_0 0 rfl ?_
  refine V_iload_n C d_td_areTwoStops_1 1 rfl ?_
  refine V_callVi C 1 (by decide) rfl rfl (c_td_hasStop l w σ a ha n hn hn7) wd_269 wd_227 wd_228 wd_2 wd_229 o_td_hasStop ⟨rfl, rfl, Nat.le_of_ble_eq_true rfl, Nat.le_of_ble_eq_true rfl⟩ rfl rfl (Nat.le_of_ble_eq_true rfl) d_td_areTwoStops_2 ⟨Nat.zero_le _, Nat.zero_le _⟩ ?_
  refine V_ifeqB C 25 d_td_areTwoStops_5 (by decide) (fun h1 => ?_) (fun h1 => ?_)
  · refine V_iconst C d_td_areTwoStops_25 ?_
    exact V_zret C hr d_td_areTwoStops_26 (by decide) (by first | exact zB_t (by omega) | exact zB_f (by omega)) rfl
  · refine V_aload_n C d_td_areTwoStops_8 0 rfl ?_
    refine V_iload_n C d_td_areTwoStops_9 2 rfl ?_
    refine V_callVi C 1 (by decide) rfl rfl (c_td_hasStop l w σ b hb n hn hn7) wd_269 wd_227 wd_228 wd_2 wd_229 o_td_hasStop ⟨rfl, rfl, Nat.le_of_ble_eq_true rfl, Nat.le_of_ble_eq_true rfl⟩ rfl rfl (Nat.le_of_ble_eq_true rfl) d_td_areTwoStops_10 ⟨Nat.zero_le _, Nat.zero_le _⟩ ?_
    refine V_ifeqB C 25 d_td_areTwoStops_13 (by decide) (fun h2 => ?_) (fun h2 => ?_)
    · refine V_iconst C d_td_areTwoStops_25 ?_
      exact V_zret C hr d_td_areTwoStops_26 (by decide) (by first | exact zB_t (by omega) | exact zB_f (by omega)) rfl
    · refine V_iload_n C d_td_areTwoStops_16 1 rfl ?_
      refine V_iload_n C d_td_areTwoStops_17 2 rfl ?_
      refine V_cmpeq C 25 d_td_areTwoStops_18 (by decide) ⟨by omega, by omega⟩ ⟨by omega, by omega⟩ (fun h3 => ?_) (fun h3 => ?_)
      · refine V_iconst C d_td_areTwoStops_25 ?_
        exact V_zret C hr d_td_areTwoStops_26 (by decide) (by first | exact zB_t (by omega) | exact zB_f (by omega)) rfl
      · refine V_iconst C d_td_areTwoStops_21 ?_
        refine V_goto C 26 d_td_areTwoStops_22 (by decide) ?_
        exact V_zret C hr d_td_areTwoStops_26 (by decide) (by first | exact zB_t (by omega) | exact zB_f (by omega)) rfl

set_option maxRecDepth 20000 in
set_option maxHeartbeats 4000000 in
theorem c_td_addStop (l : Launch) (w : zW) (σ : Nat → Nat → Int) (k : Int) (n : Nat) (hn : σ 1 0 = (n : Int)) (hn7 : n < 7) : zMi l w LL CC g_td_addStop rm_td_addStop [.ref (w.1 1), .int (zI (k))] σ ((n : Int)) (zU (zU σ 2 n k) 1 0 (n + 1)) := by
  refine zMi.of g_td_addStop (by decide +kernel) (Nat.le_of_ble_eq_true rfl) rfl ?_
  intro p e u m args below meth c C hr
  have C : zC p u m args meth c prog_5_method_5_code 2 "RoundPlans$Told" w LL CC := C
  have hr : meth.sig.returnType = (some .int) := hr
  show V p l e rm_td_addStop u m args below meth c 2 w LL CC 0 0 (MQ below (zQi w LL CC ((n : Int)) (zU (zU σ 2 n k) 1 0 (n + 1)) u.heap.size) args u 0 0 (zA w LL.1 u.heap.size)) 0 [(0, .ref (w.1 1)), (1, .int (zI (k)))] [] σ
  refine V_aload_n C d_td_addStop_0 0 rfl ?_
  refine V_getr C 1 2 2 (by decide) rfl rfl in_td (by decide) rfl wd_39 d_td_addStop_1 ?_
  refine V_aload_n C d_td_addStop_4 0 rfl ?_
  refine V_geti C 1 0 (by decide) rfl rfl in_td (by decide) rfl wd_30 d_td_addStop_5 ?_
  refine V_ti hn ?_
  refine V_iload_n C d_td_addStop_8 1 rfl ?_
  refine V_iast C 2 _ (by decide) rfl rfl (by omega) (by decide) d_td_addStop_9 ?_
  refine V_aload_n C d_td_addStop_10 0 rfl ?_
  refine V_dup C d_td_addStop_11 rfl ?_
  refine V_geti C 1 0 (by decide) rfl rfl in_td (by decide) rfl wd_30 d_td_addStop_12 ?_
  refine V_ti (b := (n : Int)) hn ?_
  refine V_iconst C d_td_addStop_15 ?_
  refine V_iadd C d_td_addStop_16 ?_
  refine V_put C 1 0 (by decide) rfl rfl in_td ty_td tk_td nm_td (by decide) rfl wd_30 rfl rfl rfl rfl d_td_addStop_17 ?_
  refine V_aload_n C d_td_addStop_20 0 rfl ?_
  refine V_geti C 1 0 (by decide) rfl rfl in_td (by decide) rfl wd_30 d_td_addStop_21 ?_
  refine V_ti (b := (n : Int) + 1) zU_self ?_
  refine V_iconst C d_td_addStop_24 ?_
  refine V_isub C d_td_addStop_25 ?_
  exact V_iret C hr d_td_addStop_26 (by omega) rfl

set_option maxRecDepth 20000 in
set_option maxHeartbeats 4000000 in
theorem c_td_addVehicle (l : Launch) (w : zW) (σ : Nat → Nat → Int) (a b k r : Int) (nv : Nat) (hv : σ 1 1 = (nv : Int)) (hv3 : nv < 3) : zMi l w LL CC g_td_addVehicle rm_td_addVehicle [.ref (w.1 1), .int (zI (a)), .int (zI (b)), .int (zI (k)), .int (zI (r))] σ ((nv : Int)) (zU (zU (zU (zU (zU σ 12 nv a) 13 nv b) 14 nv k) 15 nv r) 1 1 (nv + 1)) := by
  refine zMi.of g_td_addVehicle (by decide +kernel) (Nat.le_of_ble_eq_true rfl) rfl ?_
  intro p e u m args below meth c C hr
  have C : zC p u m args meth c prog_5_method_6_code 5 "RoundPlans$Told" w LL CC := C
  have hr : meth.sig.returnType = (some .int) := hr
  show V p l e rm_td_addVehicle u m args below meth c 5 w LL CC 0 0 (MQ below (zQi w LL CC ((nv : Int)) (zU (zU (zU (zU (zU σ 12 nv a) 13 nv b) 14 nv k) 15 nv r) 1 1 (nv + 1)) u.heap.size) args u 0 0 (zA w LL.1 u.heap.size)) 0 [(0, .ref (w.1 1)), (1, .int (zI (a))), (2, .int (zI (b))), (3, .int (zI (k))), (4, .int (zI (r)))] [] σ
  refine V_aload_n C d_td_addVehicle_0 0 rfl ?_
  refine V_getr C 1 12 12 (by decide) rfl rfl in_td (by decide) rfl wd_65 d_td_addVehicle_1 ?_
  refine V_aload_n C d_td_addVehicle_4 0 rfl ?_
  refine V_geti C 1 1 (by decide) rfl rfl in_td (by decide) rfl wd_35 d_td_addVehicle_5 ?_
  refine V_ti hv ?_
  refine V_iload_n C d_td_addVehicle_8 1 rfl ?_
  refine V_iast C 12 _ (by decide) rfl rfl (by omega) (by decide) d_td_addVehicle_9 ?_
  refine V_aload_n C d_td_addVehicle_10 0 rfl ?_
  refine V_getr C 1 13 13 (by decide) rfl rfl in_td (by decide) rfl wd_67 d_td_addVehicle_11 ?_
  refine V_aload_n C d_td_addVehicle_14 0 rfl ?_
  refine V_geti C 1 1 (by decide) rfl rfl in_td (by decide) rfl wd_35 d_td_addVehicle_15 ?_
  refine V_ti hv ?_
  refine V_iload_n C d_td_addVehicle_18 2 rfl ?_
  refine V_iast C 13 _ (by decide) rfl rfl (by omega) (by decide) d_td_addVehicle_19 ?_
  refine V_aload_n C d_td_addVehicle_20 0 rfl ?_
  refine V_getr C 1 14 14 (by decide) rfl rfl in_td (by decide) rfl wd_70 d_td_addVehicle_21 ?_
  refine V_aload_n C d_td_addVehicle_24 0 rfl ?_
  refine V_geti C 1 1 (by decide) rfl rfl in_td (by decide) rfl wd_35 d_td_addVehicle_25 ?_
  refine V_ti hv ?_
  refine V_iload_n C d_td_addVehicle_28 3 rfl ?_
  refine V_iast C 14 _ (by decide) rfl rfl (by omega) (by decide) d_td_addVehicle_29 ?_
  refine V_aload_n C d_td_addVehicle_30 0 rfl ?_
  refine V_getr C 1 15 15 (by decide) rfl rfl in_td (by decide) rfl wd_72 d_td_addVehicle_31 ?_
  refine V_aload_n C d_td_addVehicle_34 0 rfl ?_
  refine V_geti C 1 1 (by decide) rfl rfl in_td (by decide) rfl wd_35 d_td_addVehicle_35 ?_
  refine V_ti hv ?_
  refine V_iload C d_td_addVehicle_38 4 rfl ?_
  refine V_iast C 15 _ (by decide) rfl rfl (by omega) (by decide) d_td_addVehicle_40 ?_
  refine V_aload_n C d_td_addVehicle_41 0 rfl ?_
  refine V_dup C d_td_addVehicle_42 rfl ?_
  refine V_geti C 1 1 (by decide) rfl rfl in_td (by decide) rfl wd_35 d_td_addVehicle_43 ?_
  refine V_ti hv ?_
  refine V_iconst C d_td_addVehicle_46 ?_
  refine V_iadd C d_td_addVehicle_47 ?_
  refine V_put C 1 1 (by decide) rfl rfl in_td ty_td tk_td nm_td (by decide) rfl wd_35 rfl rfl rfl rfl d_td_addVehicle_48 ?_
  refine V_aload_n C d_td_addVehicle_51 0 rfl ?_
  refine V_geti C 1 1 (by decide) rfl rfl in_td (by decide) rfl wd_35 d_td_addVehicle_52 ?_
  refine V_ti (b := (nv : Int) + 1) zU_self ?_
  refine V_iconst C d_td_addVehicle_55 ?_
  refine V_isub C d_td_addVehicle_56 ?_
  exact V_iret C hr d_td_addVehicle_57 (by omega) rfl

set_option maxRecDepth 20000 in
set_option maxHeartbeats 4000000 in
theorem c_td_seconds (l : Launch) (w : zW) (σ : Nat → Nat → Int) (a b : Nat) (ha : a < 8) (hb : b < 8) : zMi l w LL CC g_td_seconds rm_td_seconds [.ref (w.1 1), .int (zI ((a : Int))), .int (zI ((b : Int)))] σ (σ 16 (a * 8 + b)) (σ) := by
  refine zMi.of g_td_seconds (by decide +kernel) (Nat.le_of_ble_eq_true rfl) rfl ?_
  intro p e u m args below meth c C hr
  have C : zC p u m args meth c prog_5_method_9_code 3 "RoundPlans$Told" w LL CC := C
  have hr : meth.sig.returnType = (some .int) := hr
  show V p l e rm_td_seconds u m args below meth c 3 w LL CC 0 0 (MQ below (zQi w LL CC (σ 16 (a * 8 + b)) (σ) u.heap.size) args u 0 0 (zA w LL.1 u.heap.size)) 0 [(0, .ref (w.1 1)), (1, .int (zI ((a : Int)))), (2, .int (zI ((b : Int))))] [] σ
  refine V_aload_n C d_td_seconds_0 0 rfl ?_
  refine V_getr C 1 16 16 (by decide) rfl rfl in_td (by decide) rfl wd_74 d_td_seconds_1 ?_
  refine V_iload_n C d_td_seconds_4 1 rfl ?_
  refine V_bipush C d_td_seconds_5 (by decide) ?_
  refine V_imul C d_td_seconds_7 ?_
  refine V_iload_n C d_td_seconds_8 2 rfl ?_
  refine V_iadd C d_td_seconds_9 ?_
  refine V_iald C 16 (a * 8 + b) (by decide) rfl (by omega) (by omega) (by decide) d_td_seconds_10 ?_
  exact V_iret C hr d_td_seconds_11 rfl rfl

set_option maxRecDepth 20000 in
set_option maxHeartbeats 4000000 in
theorem c_td_setApart (l : Launch) (w : zW) (σ : Nat → Nat → Int) (a b : Nat) (ha : a < 7) (hb : b < 7) (hab : b ≠ a) (t : Int) (ht : t = 0 ∨ t = 1) (hx : bd σ 8 7 0 127) : zMv l w LL CC g_td_setApart rm_td_setApart [.ref (w.1 1), .int (zI ((a : Int))), .int (zI ((b : Int))), .int (zI (t))] σ (sApart σ a b t) := by
  refine zMv.of g_td_setApart (by decide +kernel) (Nat.le_of_ble_eq_true rfl) rfl ?_
  intro p e u m args below meth c C hr
  have C : zC p u m args meth c prog_5_method_7_code 4 "RoundPlans$Told" w LL CC := C
  have hr : meth.sig.returnType = none := hr
  show V p l e rm_td_setApart u m args below meth c 4 w LL CC 0 0 (MQ below (zQv w LL CC (sApart σ a b t) u.heap.size) args u 0 0 (zA w LL.1 u.heap.size)) 0 [(0, .ref (w.1 1)), (1, .int (zI ((a : Int)))), (2, .int (zI ((b : Int)))), (3, .int (zI (t)))] [] σ
  refine V_aload_n C d_td_setApart_0 0 rfl ?_
  refine V_getr C 1 8 8 (by decide) rfl rfl in_td (by decide) rfl wd_56 d_td_setApart_1 ?_
  refine V_iload_n C d_td_setApart_4 1 rfl ?_
  refine V_iload_n C d_td_setApart_5 3 rfl ?_
  refine V_ifeq C 22 d_td_setApart_6 (by decide) ⟨by omega, by omega⟩ (fun h1 => ?_) (fun h1 => ?_)
  · refine V_aload_n C d_td_setApart_22 0 rfl ?_
    refine V_getr C 1 8 8 (by decide) rfl rfl in_td (by decide) rfl wd_56 d_td_setApart_23 ?_
    refine V_iload_n C d_td_setApart_26 1 rfl ?_
    refine V_iald C 8 _ (by decide) rfl rfl (by omega) (by decide) d_td_setApart_27 ?_
    refine V_ti (b := (((σ 8 a).toNat : Nat) : Int)) (by have := hx a ha; omega) ?_
    refine V_iload_n C d_td_setApart_28 2 rfl ?_
    refine V_callNi C (c_rp_without l w σ (σ 8 a).toNat b (by have := hx a ha; omega) hb) ns_7 wd_278 wd_1 wd_279 o_rp_without ⟨rfl, rfl, Nat.le_of_ble_eq_true rfl, Nat.le_of_ble_eq_true rfl⟩ rfl rfl (Nat.le_of_ble_eq_true rfl) d_td_setApart_29 ⟨Nat.zero_le _, Nat.zero_le _⟩ ?_
    refine V_iast C 8 _ (by decide) rfl rfl (by omega) (by decide) d_td_setApart_32 ?_
    refine V_aload_n C d_td_setApart_33 0 rfl ?_
    refine V_getr C 1 8 8 (by decide) rfl rfl in_td (by decide) rfl wd_56 d_td_setApart_34 ?_
    refine V_iload_n C d_td_setApart_37 2 rfl ?_
    refine V_iload_n C d_td_setApart_38 3 rfl ?_
    refine V_ifeq C 55 d_td_setApart_39 (by decide) ⟨by omega, by omega⟩ (fun h2 => ?_) (fun h2 => ?_)
    · refine V_aload_n C d_td_setApart_55 0 rfl ?_
      refine V_getr C 1 8 8 (by decide) rfl rfl in_td (by decide) rfl wd_56 d_td_setApart_56 ?_
      refine V_iload_n C d_td_setApart_59 2 rfl ?_
      refine V_iald C 8 _ (by decide) rfl rfl (by omega) (by decide) d_td_setApart_60 ?_
      refine V_ti (b := (((σ 8 b).toNat : Nat) : Int)) (by rw [zU_nj hab]; have := hx b hb; omega) ?_
      refine V_iload_n C d_td_setApart_61 1 rfl ?_
      refine V_callNi C (c_rp_without l w _ (σ 8 b).toNat a (by have := hx b hb; omega) ha) ns_7 wd_278 wd_1 wd_279 o_rp_without ⟨rfl, rfl, Nat.le_of_ble_eq_true rfl, Nat.le_of_ble_eq_true rfl⟩ rfl rfl (Nat.le_of_ble_eq_true rfl) d_td_setApart_62 ⟨Nat.zero_le _, Nat.zero_le _⟩ ?_
      refine V_iast C 8 _ (by decide) rfl rfl (by omega) (by decide) d_td_setApart_65 ?_
      exact V_vret C hr d_td_setApart_66 (by unfold sApart apF; first | (exfalso; omega) | (rw [if_pos (by omega), if_pos (by omega)]) | (rw [if_neg (by omega), if_neg (by omega)]) | omega)
    · refine V_aload_n C d_td_setApart_42 0 rfl ?_
      refine V_getr C 1 8 8 (by decide) rfl rfl in_td (by decide) rfl wd_56 d_td_setApart_43 ?_
      refine V_iload_n C d_td_setApart_46 2 rfl ?_
      refine V_iald C 8 _ (by decide) rfl rfl (by omega) (by decide) d_td_setApart_47 ?_
      refine V_ti (b := (((σ 8 b).toNat : Nat) : Int)) (by rw [zU_nj hab]; have := hx b hb; omega) ?_
      refine V_iload_n C d_td_setApart_48 1 rfl ?_
      refine V_callNi C (c_rp_with l w _ (σ 8 b).toNat a ha) ns_6 wd_275 wd_1 wd_276 o_rp_with ⟨rfl, rfl, Nat.le_of_ble_eq_true rfl, Nat.le_of_ble_eq_true rfl⟩ rfl rfl (Nat.le_of_ble_eq_true rfl) d_td_setApart_49 ⟨Nat.zero_le _, Nat.zero_le _⟩ ?_
      refine V_goto C 65 d_td_setApart_52 (by decide) ?_
      refine V_iast C 8 _ (by decide) rfl rfl (by omega) (by decide) d_td_setApart_65 ?_
      exact V_vret C hr d_td_setApart_66 (by unfold sApart apF; first | (exfalso; omega) | (rw [if_pos (by omega), if_pos (by omega)]) | (rw [if_neg (by omega), if_neg (by omega)]) | omega)
  · refine V_aload_n C d_td_setApart_9 0 rfl ?_
    refine V_getr C 1 8 8 (by decide) rfl rfl in_td (by decide) rfl wd_56 d_td_setApart_10 ?_
    refine V_iload_n C d_td_setApart_13 1 rfl ?_
    refine V_iald C 8 _ (by decide) rfl rfl (by omega) (by decide) d_td_setApart_14 ?_
    refine V_ti (b := (((σ 8 a).toNat : Nat) : Int)) (by have := hx a ha; omega) ?_
    refine V_iload_n C d_td_setApart_15 2 rfl ?_
    refine V_callNi C (c_rp_with l w σ (σ 8 a).toNat b hb) ns_6 wd_275 wd_1 wd_276 o_rp_with ⟨rfl, rfl, Nat.le_of_ble_eq_true rfl, Nat.le_of_ble_eq_true rfl⟩ rfl rfl (Nat.le_of_ble_eq_true rfl) d_td_setApart_16 ⟨Nat.zero_le _, Nat.zero_le _⟩ ?_
    refine V_goto C 32 d_td_setApart_19 (by decide) ?_
    refine V_iast C 8 _ (by decide) rfl rfl (by omega) (by decide) d_td_setApart_32 ?_
    refine V_aload_n C d_td_setApart_33 0 rfl ?_
    refine V_getr C 1 8 8 (by decide) rfl rfl in_td (by decide) rfl wd_56 d_td_setApart_34 ?_
    refine V_iload_n C d_td_setApart_37 2 rfl ?_
    refine V_iload_n C d_td_setApart_38 3 rfl ?_
    refine V_ifeq C 55 d_td_setApart_39 (by decide) ⟨by omega, by omega⟩ (fun h3 => ?_) (fun h3 => ?_)
    · refine V_aload_n C d_td_setApart_55 0 rfl ?_
      refine V_getr C 1 8 8 (by decide) rfl rfl in_td (by decide) rfl wd_56 d_td_setApart_56 ?_
      refine V_iload_n C d_td_setApart_59 2 rfl ?_
      refine V_iald C 8 _ (by decide) rfl rfl (by omega) (by decide) d_td_setApart_60 ?_
      refine V_ti (b := (((σ 8 b).toNat : Nat) : Int)) (by rw [zU_nj hab]; have := hx b hb; omega) ?_
      refine V_iload_n C d_td_setApart_61 1 rfl ?_
      refine V_callNi C (c_rp_without l w _ (σ 8 b).toNat a (by have := hx b hb; omega) ha) ns_7 wd_278 wd_1 wd_279 o_rp_without ⟨rfl, rfl, Nat.le_of_ble_eq_true rfl, Nat.le_of_ble_eq_true rfl⟩ rfl rfl (Nat.le_of_ble_eq_true rfl) d_td_setApart_62 ⟨Nat.zero_le _, Nat.zero_le _⟩ ?_
      refine V_iast C 8 _ (by decide) rfl rfl (by omega) (by decide) d_td_setApart_65 ?_
      exact V_vret C hr d_td_setApart_66 (by unfold sApart apF; first | (exfalso; omega) | (rw [if_pos (by omega), if_pos (by omega)]) | (rw [if_neg (by omega), if_neg (by omega)]) | omega)
    · refine V_aload_n C d_td_setApart_42 0 rfl ?_
      refine V_getr C 1 8 8 (by decide) rfl rfl in_td (by decide) rfl wd_56 d_td_setApart_43 ?_
      refine V_iload_n C d_td_setApart_46 2 rfl ?_
      refine V_iald C 8 _ (by decide) rfl rfl (by omega) (by decide) d_td_setApart_47 ?_
      refine V_ti (b := (((σ 8 b).toNat : Nat) : Int)) (by rw [zU_nj hab]; have := hx b hb; omega) ?_
      refine V_iload_n C d_td_setApart_48 1 rfl ?_
      refine V_callNi C (c_rp_with l w _ (σ 8 b).toNat a ha) ns_6 wd_275 wd_1 wd_276 o_rp_with ⟨rfl, rfl, Nat.le_of_ble_eq_true rfl, Nat.le_of_ble_eq_true rfl⟩ rfl rfl (Nat.le_of_ble_eq_true rfl) d_td_setApart_49 ⟨Nat.zero_le _, Nat.zero_le _⟩ ?_
      refine V_goto C 65 d_td_setApart_52 (by decide) ?_
      refine V_iast C 8 _ (by decide) rfl rfl (by omega) (by decide) d_td_setApart_65 ?_
      exact V_vret C hr d_td_setApart_66 (by unfold sApart apF; first | (exfalso; omega) | (rw [if_pos (by omega), if_pos (by omega)]) | (rw [if_neg (by omega), if_neg (by omega)]) | omega)
end
section
/-! setBefore; the class's calls but run -/
set_option maxRecDepth 20000 in
set_option maxHeartbeats 4000000 in
theorem c_td_setBefore (l : Launch) (w : zW) (σ : Nat → Nat → Int) (a b : Nat) (ha : a < 7) (hb : b < 7) (n : Nat) (hn : σ 1 0 = (n : Int)) (hn7 : n ≤ 7) (h9 : bd σ 9 7 0 127) (h10 : bd σ 10 7 0 127) (h11 : bd σ 11 7 0 127) : zMv l w LL CC g_td_setBefore rm_td_setBefore [.ref (w.1 1), .int (zI ((a : Int))), .int (zI ((b : Int)))] σ (sBefore σ n a b) := by
  refine zMv.of g_td_setBefore (by decide +kernel) (Nat.le_of_ble_eq_true rfl) rfl ?_
  intro p e u m args below meth c C hr
  have C : zC p u m args meth c prog_5_method_8_code 5 "RoundPlans$Told" w LL CC := C
  have hr : meth.sig.returnType = none := hr
  show V p l e rm_td_setBefore u m args below meth c 5 w LL CC 0 0 (MQ below (zQv w LL CC (sBefore σ n a b) u.heap.size) args u 0 0 (zA w LL.1 u.heap.size)) 0 [(0, .ref (w.1 1)), (1, .int (zI ((a : Int)))), (2, .int (zI ((b : Int))))] [] σ
  refine V_aload_n C d_td_setBefore_0 0 rfl ?_
  refine V_getr C 1 10 10 (by decide) rfl rfl in_td (by decide) rfl wd_60 d_td_setBefore_1 ?_
  refine V_iload_n C d_td_setBefore_4 1 rfl ?_
  refine V_aload_n C d_td_setBefore_5 0 rfl ?_
  refine V_getr C 1 10 10 (by decide) rfl rfl in_td (by decide) rfl wd_60 d_td_setBefore_6 ?_
  refine V_iload_n C d_td_setBefore_9 1 rfl ?_
  refine V_iald C 10 _ (by decide) rfl rfl (by omega) (by decide) d_td_setBefore_10 ?_
  refine V_ti (b := (((σ 10 a).toNat : Nat) : Int)) (by show σ 10 a = _; have := h10 a ha; omega) ?_
  refine V_iload_n C d_td_setBefore_11 2 rfl ?_
  refine V_callNi C (c_rp_with l w σ (σ 10 a).toNat b hb) ns_6 wd_275 wd_1 wd_276 o_rp_with ⟨rfl, rfl, Nat.le_of_ble_eq_true rfl, Nat.le_of_ble_eq_true rfl⟩ rfl rfl (Nat.le_of_ble_eq_true rfl) d_td_setBefore_12 ⟨Nat.zero_le _, Nat.zero_le _⟩ ?_
  refine V_iast C 10 _ (by decide) rfl rfl (by omega) (by decide) d_td_setBefore_15 ?_
  refine V_aload_n C d_td_setBefore_16 0 rfl ?_
  refine V_getr C 1 9 9 (by decide) rfl rfl in_td (by decide) rfl wd_58 d_td_setBefore_17 ?_
  refine V_iload_n C d_td_setBefore_20 2 rfl ?_
  refine V_aload_n C d_td_setBefore_21 0 rfl ?_
  refine V_getr C 1 9 9 (by decide) rfl rfl in_td (by decide) rfl wd_58 d_td_setBefore_22 ?_
  refine V_iload_n C d_td_setBefore_25 2 rfl ?_
  refine V_iald C 9 _ (by decide) rfl rfl (by omega) (by decide) d_td_setBefore_26 ?_
  refine V_ti (b := (((σ 9 b).toNat : Nat) : Int)) (by show σ 9 b = _; have := h9 b hb; omega) ?_
  refine V_iload_n C d_td_setBefore_27 1 rfl ?_
  refine V_callNi C (c_rp_with l w _ (σ 9 b).toNat a ha) ns_6 wd_275 wd_1 wd_276 o_rp_with ⟨rfl, rfl, Nat.le_of_ble_eq_true rfl, Nat.le_of_ble_eq_true rfl⟩ rfl rfl (Nat.le_of_ble_eq_true rfl) d_td_setBefore_28 ⟨Nat.zero_le _, Nat.zero_le _⟩ ?_
  refine V_iast C 9 _ (by decide) rfl rfl (by omega) (by decide) d_td_setBefore_31 ?_
  refine V_aload_n C d_td_setBefore_32 0 rfl ?_
  refine V_getr C 1 11 11 (by decide) rfl rfl in_td (by decide) rfl wd_63 d_td_setBefore_33 ?_
  refine V_iload_n C d_td_setBefore_36 2 rfl ?_
  refine V_iald C 11 _ (by decide) rfl rfl (by omega) (by decide) d_td_setBefore_37 ?_
  refine V_ti (b := (((σ 11 b).toNat : Nat) : Int)) (by show σ 11 b = _; have := h11 b hb; omega) ?_
  refine V_iload_n C d_td_setBefore_38 2 rfl ?_
  refine V_callNi C (c_rp_with l w _ (σ 11 b).toNat b hb) ns_6 wd_275 wd_1 wd_276 o_rp_with ⟨rfl, rfl, Nat.le_of_ble_eq_true rfl, Nat.le_of_ble_eq_true rfl⟩ rfl rfl (Nat.le_of_ble_eq_true rfl) d_td_setBefore_39 ⟨Nat.zero_le _, Nat.zero_le _⟩ ?_
  refine V_istore_n (lv' := [(3, _), (0, _), (1, _), (2, _)]) C d_td_setBefore_42 (by decide) rfl ?_
  refine V_iconst C d_td_setBefore_43 ?_
  refine V_istore (lv' := [(4, _), (3, _), (0, _), (1, _), (2, _)]) C d_td_setBefore_44 (by decide) rfl ?_
  refine V_sub (lv' := [(4, _), (3, _), (0, _), (1, _), (2, _)]) [0, 1, 2, 3, 4] rfl ?_
  refine loopUp (n := n) (P := fun i => V p l e rm_td_setBefore u m args below meth c 5 w LL CC 0 0 (MQ below (zQv w LL CC (sBefore σ n a b) u.heap.size) args u 0 0 (zA w LL.1 u.heap.size)) 46 [(4, .int (zI ((i : Int)))), (3, .int (zI (((wi (σ 11 b).toNat b : Nat) : Int)))), (0, .ref (w.1 1)), (1, .int (zI ((a : Int)))), (2, .int (zI ((b : Int))))] [] (rcF (sBef0 σ a b) a (wi (σ 11 b).toNat b) i)) (fun i hii ihi => ?_) 0 (Nat.zero_le _)
  show V p l e rm_td_setBefore u m args below meth c 5 w LL CC 0 0 (MQ below (zQv w LL CC (sBefore σ n a b) u.heap.size) args u 0 0 (zA w LL.1 u.heap.size)) 46 [(4, .int (zI ((i : Int)))), (3, .int (zI (((wi (σ 11 b).toNat b : Nat) : Int)))), (0, .ref (w.1 1)), (1, .int (zI ((a : Int)))), (2, .int (zI ((b : Int))))] [] (rcF (sBef0 σ a b) a (wi (σ 11 b).toNat b) i)
  refine V_iload C d_td_setBefore_46 0 rfl ?_
  refine V_aload_n C d_td_setBefore_48 2 rfl ?_
  refine V_geti C 1 0 (by decide) rfl rfl in_td (by decide) rfl wd_30 d_td_setBefore_49 ?_
  refine V_ti (b := (n : Int)) (by rw [rcF_ne (by decide)]; exact hn) ?_
  refine V_cmpge C 92 d_td_setBefore_52 (by decide) ⟨by omega, by omega⟩ ⟨by omega, by omega⟩ (fun he => ?_) (fun he => ?_)
  · have hin : i = n := by omega
    exact V_vret C hr d_td_setBefore_92 (by subst hin; rfl)
  · have hin : i < n := by omega
    refine V_iload C d_td_setBefore_55 0 rfl ?_
    refine V_iload_n C d_td_setBefore_57 3 rfl ?_
    refine V_cmpeq C 75 d_td_setBefore_58 (by decide) ⟨by omega, by omega⟩ ⟨by omega, by omega⟩ (fun ha1 => ?_) (fun ha1 => ?_)
    · refine V_aload_n C d_td_setBefore_75 2 rfl ?_
      refine V_getr C 1 11 11 (by decide) rfl rfl in_td (by decide) rfl wd_63 d_td_setBefore_76 ?_
      refine V_iload C d_td_setBefore_79 0 rfl ?_
      refine V_dup2 C d_td_setBefore_81 rfl rfl ?_
      refine V_iald C 11 _ (by decide) rfl rfl (by omega) (by decide) d_td_setBefore_82 ?_
      refine V_ti (b := (((σ 11 i).toNat : Nat) : Int)) (by rw [rcF_hi i i (Nat.le_refl _)]; have := h11 i (by omega); show σ 11 i = _; omega) ?_
      refine V_iload_n C d_td_setBefore_83 1 rfl ?_
      refine V_ior C ((((σ 11 i).toNat ||| wi (σ 11 b).toNat b : Nat) : Int)) d_td_setBefore_84 (zI_or _ _) ?_
      refine V_iast C 11 _ (by decide) rfl rfl (by omega) (by decide) d_td_setBefore_85 ?_
      refine V_iinc (lv' := [(4, _), (3, _), (0, _), (1, _), (2, _)]) C d_td_setBefore_86 0 rfl (by decide) rfl ?_
      refine V_goto C 46 d_td_setBefore_89 (by decide) ?_
      refine V_sub (lv' := [(4, _), (3, _), (0, _), (1, _), (2, _)]) [0, 1, 2, 3, 4] rfl ?_
      have hst : rcF (sBef0 σ a b) a (wi (σ 11 b).toNat b) (i + 1) = _ := rfl
      have h9 := ihi hin
      unfold rcF at h9
      rw [show sBef0 σ a b 11 i = σ 11 i from rfl] at h9
      first | (rw [if_pos (Or.inl (by omega))] at h9; exact h9) | (rw [if_pos (Or.inr hh)] at h9; exact h9) | (rw [if_neg (by intro z; rcases z with z | z; omega; exact hh z)] at h9; exact h9)
    · refine V_aload_n C d_td_setBefore_61 2 rfl ?_
      refine V_getr C 1 11 11 (by decide) rfl rfl in_td (by decide) rfl wd_63 d_td_setBefore_62 ?_
      refine V_iload C d_td_setBefore_65 0 rfl ?_
      refine V_iald C 11 _ (by decide) rfl rfl (by omega) (by decide) d_td_setBefore_67 ?_
      refine V_ti (b := (((σ 11 i).toNat : Nat) : Int)) (by rw [rcF_hi i i (Nat.le_refl _)]; have := h11 i (by omega); show σ 11 i = _; omega) ?_
      refine V_iload_n C d_td_setBefore_68 3 rfl ?_
      refine V_callNi C (c_rp_holds l w _ (σ 11 i).toNat a (by have := h11 i (by omega); omega) ha) ns_8 wd_285 wd_1 wd_286 o_rp_holds ⟨rfl, rfl, Nat.le_of_ble_eq_true rfl, Nat.le_of_ble_eq_true rfl⟩ rfl rfl (Nat.le_of_ble_eq_true rfl) d_td_setBefore_69 ⟨Nat.zero_le _, Nat.zero_le _⟩ ?_
      refine V_ifeqB C 86 d_td_setBefore_72 (by decide) (fun hh => ?_) (fun hh => ?_)
      · refine V_iinc (lv' := [(4, _), (3, _), (0, _), (1, _), (2, _)]) C d_td_setBefore_86 0 rfl (by decide) rfl ?_
        refine V_goto C 46 d_td_setBefore_89 (by decide) ?_
        refine V_sub (lv' := [(4, _), (3, _), (0, _), (1, _), (2, _)]) [0, 1, 2, 3, 4] rfl ?_
        have hst : rcF (sBef0 σ a b) a (wi (σ 11 b).toNat b) (i + 1) = _ := rfl
        have h9 := ihi hin
        unfold rcF at h9
        rw [show sBef0 σ a b 11 i = σ 11 i from rfl] at h9
        first | (rw [if_pos (Or.inl (by omega))] at h9; exact h9) | (rw [if_pos (Or.inr hh)] at h9; exact h9) | (rw [if_neg (by intro z; rcases z with z | z; omega; exact hh z)] at h9; exact h9)
      · refine V_aload_n C d_td_setBefore_75 2 rfl ?_
        refine V_getr C 1 11 11 (by decide) rfl rfl in_td (by decide) rfl wd_63 d_td_setBefore_76 ?_
        refine V_iload C d_td_setBefore_79 0 rfl ?_
        refine V_dup2 C d_td_setBefore_81 rfl rfl ?_
        refine V_iald C 11 _ (by decide) rfl rfl (by omega) (by decide) d_td_setBefore_82 ?_
        refine V_ti (b := (((σ 11 i).toNat : Nat) : Int)) (by rw [rcF_hi i i (Nat.le_refl _)]; have := h11 i (by omega); show σ 11 i = _; omega) ?_
        refine V_iload_n C d_td_setBefore_83 1 rfl ?_
        refine V_ior C ((((σ 11 i).toNat ||| wi (σ 11 b).toNat b : Nat) : Int)) d_td_setBefore_84 (zI_or _ _) ?_
        refine V_iast C 11 _ (by decide) rfl rfl (by omega) (by decide) d_td_setBefore_85 ?_
        refine V_iinc (lv' := [(4, _), (3, _), (0, _), (1, _), (2, _)]) C d_td_setBefore_86 0 rfl (by decide) rfl ?_
        refine V_goto C 46 d_td_setBefore_89 (by decide) ?_
        refine V_sub (lv' := [(4, _), (3, _), (0, _), (1, _), (2, _)]) [0, 1, 2, 3, 4] rfl ?_
        have hst : rcF (sBef0 σ a b) a (wi (σ 11 b).toNat b) (i + 1) = _ := rfl
        have h9 := ihi hin
        unfold rcF at h9
        rw [show sBef0 σ a b 11 i = σ 11 i from rfl] at h9
        first | (rw [if_pos (Or.inl (by omega))] at h9; exact h9) | (rw [if_pos (Or.inr hh)] at h9; exact h9) | (rw [if_neg (by intro z; rcases z with z | z; omega; exact hh z)] at h9; exact h9)

set_option maxRecDepth 20000 in
set_option maxHeartbeats 4000000 in
theorem c_rp_stop (l : Launch) (w : zW) (σ : Nat → Nat → Int) (k : Int) (hk : rI k) (n : Nat) (hn : σ 1 0 = (n : Int)) (hn7 : n ≤ 7) : zMi l w LL CC g_rp_stop rm_rp_stop [.ref (w.1 0), .int (zI (k))] σ (if n < 7 ∧ 0 ≤ k ∧ k ≤ 100000 then (n : Int) else -1) (if n < 7 ∧ 0 ≤ k ∧ k ≤ 100000 then zU (zU σ 2 n k) 1 0 (n + 1) else σ) := by
  refine zMi.of g_rp_stop (by decide +kernel) (Nat.le_of_ble_eq_true rfl) rfl ?_
  intro p e u m args below meth c C hr
  have C : zC p u m args meth c prog_1_method_2_code 2 "RoundPlans" w LL CC := C
  have hr : meth.sig.returnType = (some .int) := hr
  obtain ⟨hk1, hk2⟩ := id hk
  show V p l e rm_rp_stop u m args below meth c 2 w LL CC 0 0 (MQ below (zQi w LL CC (if n < 7 ∧ 0 ≤ k ∧ k ≤ 100000 then (n : Int) else -1) (if n < 7 ∧ 0 ≤ k ∧ k ≤ 100000 then zU (zU σ 2 n k) 1 0 (n + 1) else σ) u.heap.size) args u 0 0 (zA w LL.1 u.heap.size)) 0 [(0, .ref (w.1 0)), (1, .int (zI (k)))] [] σ
  refine V_aload_n C d_rp_stop_0 0 rfl ?_
  refine V_getr C 0 0 1 (by decide) rfl rfl in_rp (by decide) rfl wd_197 d_rp_stop_1 ?_
  refine V_geti C 1 0 (by decide) rfl rfl in_td (by decide) rfl wd_29 d_rp_stop_4 ?_
  refine V_ti hn ?_
  refine V_bipush C d_rp_stop_7 (by decide) ?_
  refine V_cmpge C 21 d_rp_stop_9 (by decide) ⟨by omega, by omega⟩ ⟨by omega, by omega⟩ (fun h1 => ?_) (fun h1 => ?_)
  · refine V_iconst C d_rp_stop_21 ?_
    exact V_iret C hr d_rp_stop_22 (by rw [if_neg (by omega)]) (by rw [if_neg (by omega)])
  · refine V_iload_n C d_rp_stop_12 1 rfl ?_
    refine V_ldc C (100000) d_rp_stop_13 wd_214 ?_
    refine V_callSi C (c_rp_isWithin l w σ k 100000 hk ⟨by omega, by omega⟩) wd_215 wd_216 wd_1 wd_217 o_rp_isWithin ⟨rfl, rfl, Nat.le_of_ble_eq_true rfl, Nat.le_of_ble_eq_true rfl⟩ rfl rfl (Nat.le_of_ble_eq_true rfl) d_rp_stop_15 ⟨Nat.zero_le _, Nat.zero_le _⟩ ?_
    refine V_ifneB C 23 d_rp_stop_18 (by decide) (fun h2 => ?_) (fun h2 => ?_)
    · refine V_aload_n C d_rp_stop_23 0 rfl ?_
      refine V_getr C 0 0 1 (by decide) rfl rfl in_rp (by decide) rfl wd_197 d_rp_stop_24 ?_
      refine V_iload_n C d_rp_stop_27 1 rfl ?_
      refine V_callVi C 1 (by decide) rfl rfl (c_td_addStop l w σ k n hn (by omega)) wd_218 wd_219 wd_220 wd_2 wd_221 o_td_addStop ⟨rfl, rfl, Nat.le_of_ble_eq_true rfl, Nat.le_of_ble_eq_true rfl⟩ rfl rfl (Nat.le_of_ble_eq_true rfl) d_rp_stop_28 ⟨Nat.zero_le _, Nat.zero_le _⟩ ?_
      exact V_iret C hr d_rp_stop_31 (by rw [if_pos (by omega)]) (by rw [if_pos (by omega)])
    · refine V_iconst C d_rp_stop_21 ?_
      exact V_iret C hr d_rp_stop_22 (by rw [if_neg (by omega)]) (by rw [if_neg (by omega)])

set_option maxRecDepth 20000 in
set_option maxHeartbeats 4000000 in
theorem c_rp_hours (l : Launch) (w : zW) (σ : Nat → Nat → Int) (k f g q : Int) (hk : rI k) (hf : rI f) (hg : rI g) (hq : rI q) (n : Nat) (hn : σ 1 0 = (n : Int)) (hn7 : n ≤ 7) : zMi l w LL CC g_rp_hours rm_rp_hours [.ref (w.1 0), .int (zI (k)), .int (zI (f)), .int (zI (g)), .int (zI (q))] σ (zB (0 ≤ k ∧ k < n ∧ 0 ≤ f ∧ f ≤ g ∧ g ≤ 86399 ∧ 0 ≤ q ∧ q ≤ 10000)) (if 0 ≤ k ∧ k < n ∧ 0 ≤ f ∧ f ≤ g ∧ g ≤ 86399 ∧ 0 ≤ q ∧ q ≤ 10000 then zU (zU (zU σ 3 k.toNat f) 4 k.toNat g) 5 k.toNat q else σ) := by
  refine zMi.of g_rp_hours (by decide +kernel) (Nat.le_of_ble_eq_true rfl) rfl ?_
  intro p e u m args below meth c C hr
  have C : zC p u m args meth c prog_1_method_3_code 5 "RoundPlans" w LL CC := C
  have hr : meth.sig.returnType = (some .boolean) := hr
  obtain ⟨hk1, hk2⟩ := id hk
  obtain ⟨hf1, hf2⟩ := id hf
  obtain ⟨hg1, hg2⟩ := id hg
  obtain ⟨hq1, hq2⟩ := id hq
  show V p l e rm_rp_hours u m args below meth c 5 w LL CC 0 0 (MQ below (zQi w LL CC (zB (0 ≤ k ∧ k < n ∧ 0 ≤ f ∧ f ≤ g ∧ g ≤ 86399 ∧ 0 ≤ q ∧ q ≤ 10000)) (if 0 ≤ k ∧ k < n ∧ 0 ≤ f ∧ f ≤ g ∧ g ≤ 86399 ∧ 0 ≤ q ∧ q ≤ 10000 then zU (zU (zU σ 3 k.toNat f) 4 k.toNat g) 5 k.toNat q else σ) u.heap.size) args u 0 0 (zA w LL.1 u.heap.size)) 0 [(0, .ref (w.1 0)), (1, .int (zI (k))), (2, .int (zI (f))), (3, .int (zI (g))), (4, .int (zI (q)))] [] σ
  refine V_aload_n C d_rp_hours_0 0 rfl ?_
  refine V_getr C 0 0 1 (by decide) rfl rfl in_rp (by decide) rfl wd_197 d_rp_hours_1 ?_
  refine V_iload_n C d_rp_hours_4 1 rfl ?_
  refine V_callVi C 1 (by decide) rfl rfl (c_td_hasStop l w σ k hk n hn hn7) wd_226 wd_227 wd_228 wd_2 wd_229 o_td_hasStop ⟨rfl, rfl, Nat.le_of_ble_eq_true rfl, Nat.le_of_ble_eq_true rfl⟩ rfl rfl (Nat.le_of_ble_eq_true rfl) d_rp_hours_5 ⟨Nat.zero_le _, Nat.zero_le _⟩ ?_
  refine V_ifeqB C 30 d_rp_hours_8 (by decide) (fun h1 => ?_) (fun h1 => ?_)
  · refine V_iconst C d_rp_hours_30 ?_
    exact V_zret C hr d_rp_hours_31 (by decide) (zB_f (by omega)) (by rw [if_neg (by omega)])
  · refine V_iload_n C d_rp_hours_11 2 rfl ?_
    refine V_iload_n C d_rp_hours_12 3 rfl ?_
    refine V_callSi C (c_rp_isSpan l w σ f g hf hg) wd_230 wd_231 wd_1 wd_232 o_rp_isSpan ⟨rfl, rfl, Nat.le_of_ble_eq_true rfl, Nat.le_of_ble_eq_true rfl⟩ rfl rfl (Nat.le_of_ble_eq_true rfl) d_rp_hours_13 ⟨Nat.zero_le _, Nat.zero_le _⟩ ?_
    refine V_ifeqB C 30 d_rp_hours_16 (by decide) (fun h2 => ?_) (fun h2 => ?_)
    · refine V_iconst C d_rp_hours_30 ?_
      exact V_zret C hr d_rp_hours_31 (by decide) (zB_f (by omega)) (by rw [if_neg (by omega)])
    · refine V_iload C d_rp_hours_19 4 rfl ?_
      refine V_sipush C d_rp_hours_21 (by decide) ?_
      refine V_callSi C (c_rp_isWithin l w σ q 10000 hq ⟨by omega, by omega⟩) wd_215 wd_216 wd_1 wd_217 o_rp_isWithin ⟨rfl, rfl, Nat.le_of_ble_eq_true rfl, Nat.le_of_ble_eq_true rfl⟩ rfl rfl (Nat.le_of_ble_eq_true rfl) d_rp_hours_24 ⟨Nat.zero_le _, Nat.zero_le _⟩ ?_
      refine V_ifneB C 32 d_rp_hours_27 (by decide) (fun h3 => ?_) (fun h3 => ?_)
      · obtain ⟨i, rfl⟩ : ∃ i : Nat, k = (i : Int) := ⟨k.toNat, by omega⟩
        refine V_aload_n C d_rp_hours_32 0 rfl ?_
        refine V_getr C 0 0 1 (by decide) rfl rfl in_rp (by decide) rfl wd_197 d_rp_hours_33 ?_
        refine V_getr C 1 3 3 (by decide) rfl rfl in_td (by decide) rfl wd_42 d_rp_hours_36 ?_
        refine V_iload_n C d_rp_hours_39 1 rfl ?_
        refine V_iload_n C d_rp_hours_40 2 rfl ?_
        refine V_iast C 3 _ (by decide) rfl rfl (by omega) (by decide) d_rp_hours_41 ?_
        refine V_aload_n C d_rp_hours_42 0 rfl ?_
        refine V_getr C 0 0 1 (by decide) rfl rfl in_rp (by decide) rfl wd_197 d_rp_hours_43 ?_
        refine V_getr C 1 4 4 (by decide) rfl rfl in_td (by decide) rfl wd_45 d_rp_hours_46 ?_
        refine V_iload_n C d_rp_hours_49 1 rfl ?_
        refine V_iload_n C d_rp_hours_50 3 rfl ?_
        refine V_iast C 4 _ (by decide) rfl rfl (by omega) (by decide) d_rp_hours_51 ?_
        refine V_aload_n C d_rp_hours_52 0 rfl ?_
        refine V_getr C 0 0 1 (by decide) rfl rfl in_rp (by decide) rfl wd_197 d_rp_hours_53 ?_
        refine V_getr C 1 5 5 (by decide) rfl rfl in_td (by decide) rfl wd_48 d_rp_hours_56 ?_
        refine V_iload_n C d_rp_hours_59 1 rfl ?_
        refine V_iload C d_rp_hours_60 4 rfl ?_
        refine V_iast C 5 _ (by decide) rfl rfl (by omega) (by decide) d_rp_hours_62 ?_
        refine V_iconst C d_rp_hours_63 ?_
        exact V_zret C hr d_rp_hours_64 (by decide) (zB_t (by omega)) (by rw [if_pos (by omega)]; rfl)
      · refine V_iconst C d_rp_hours_30 ?_
        exact V_zret C hr d_rp_hours_31 (by decide) (zB_f (by omega)) (by rw [if_neg (by omega)])

set_option maxRecDepth 20000 in
set_option maxHeartbeats 4000000 in
theorem c_rp_penalty (l : Launch) (w : zW) (σ : Nat → Nat → Int) (k c0 : Int) (hk : rI k) (hc : rL c0) (n : Nat) (hn : σ 1 0 = (n : Int)) (hn7 : n ≤ 7) : zMi l w LL CC g_rp_penalty rm_rp_penalty [.ref (w.1 0), .int (zI (k)), .long (zL (c0))] σ (zB (0 ≤ k ∧ k < n ∧ 0 ≤ c0 ∧ c0 ≤ 1000000000)) (if 0 ≤ k ∧ k < n ∧ 0 ≤ c0 ∧ c0 ≤ 1000000000 then zU σ 6 k.toNat c0 else σ) := by
  refine zMi.of g_rp_penalty (by decide +kernel) (Nat.le_of_ble_eq_true rfl) rfl ?_
  intro p e u m args below meth c C hr
  have C : zC p u m args meth c prog_1_method_4_code 4 "RoundPlans" w LL CC := C
  have hr : meth.sig.returnType = (some .boolean) := hr
  obtain ⟨hk1, hk2⟩ := id hk
  obtain ⟨hc1, hc2⟩ := id hc
  show V p l e rm_rp_penalty u m args below meth c 4 w LL CC 0 0 (MQ below (zQi w LL CC (zB (0 ≤ k ∧ k < n ∧ 0 ≤ c0 ∧ c0 ≤ 1000000000)) (if 0 ≤ k ∧ k < n ∧ 0 ≤ c0 ∧ c0 ≤ 1000000000 then zU σ 6 k.toNat c0 else σ) u.heap.size) args u 0 0 (zA w LL.1 u.heap.size)) 0 [(0, .ref (w.1 0)), (1, .int (zI (k))), (2, .long (zL (c0)))] [] σ
  refine V_aload_n C d_rp_penalty_0 0 rfl ?_
  refine V_getr C 0 0 1 (by decide) rfl rfl in_rp (by decide) rfl wd_197 d_rp_penalty_1 ?_
  refine V_iload_n C d_rp_penalty_4 1 rfl ?_
  refine V_callVi C 1 (by decide) rfl rfl (c_td_hasStop l w σ k hk n hn hn7) wd_226 wd_227 wd_228 wd_2 wd_229 o_td_hasStop ⟨rfl, rfl, Nat.le_of_ble_eq_true rfl, Nat.le_of_ble_eq_true rfl⟩ rfl rfl (Nat.le_of_ble_eq_true rfl) d_rp_penalty_5 ⟨Nat.zero_le _, Nat.zero_le _⟩ ?_
  refine V_ifeqB C 25 d_rp_penalty_8 (by decide) (fun h1 => ?_) (fun h1 => ?_)
  · refine V_iconst C d_rp_penalty_25 ?_
    exact V_zret C hr d_rp_penalty_26 (by decide) (zB_f (by omega)) (by rw [if_neg (by omega)])
  · refine V_lload_n C d_rp_penalty_11 2 rfl ?_
    refine V_lconst C 0 d_rp_penalty_12 rfl ?_
    refine V_lcmp C d_rp_penalty_13 ⟨by omega, by omega⟩ ⟨by omega, by omega⟩ ?_
    refine V_iflt C 25 d_rp_penalty_14 (by decide) (by split; exact rI_1; split; exact rI_0; exact ⟨by decide, by decide⟩) (fun hl1 => ?_) (fun hl1 => ?_)
    · have hl1 : c0 < 0 := by split at hl1; omega; split at hl1 <;> omega
      refine V_iconst C d_rp_penalty_25 ?_
      exact V_zret C hr d_rp_penalty_26 (by decide) (zB_f (by omega)) (by rw [if_neg (by omega)])
    · have hl1 : 0 ≤ c0 := by split at hl1; omega; split at hl1 <;> omega
      refine V_lload_n C d_rp_penalty_17 2 rfl ?_
      refine V_ldc2 C (1000000000) d_rp_penalty_18 wd_238 ?_
      refine V_lcmp C d_rp_penalty_21 ⟨by omega, by omega⟩ ⟨by omega, by omega⟩ ?_
      refine V_ifle C 27 d_rp_penalty_22 (by decide) (by split; exact rI_1; split; exact rI_0; exact ⟨by decide, by decide⟩) (fun hl2 => ?_) (fun hl2 => ?_)
      · have hl2 : c0 ≤ 1000000000 := by split at hl2; omega; split at hl2 <;> omega
        obtain ⟨i, rfl⟩ : ∃ i : Nat, k = (i : Int) := ⟨k.toNat, by omega⟩
        refine V_aload_n C d_rp_penalty_27 0 rfl ?_
        refine V_getr C 0 0 1 (by decide) rfl rfl in_rp (by decide) rfl wd_197 d_rp_penalty_28 ?_
        refine V_getr C 1 6 6 (by decide) rfl rfl in_td (by decide) rfl wd_51 d_rp_penalty_31 ?_
        refine V_iload_n C d_rp_penalty_34 1 rfl ?_
        refine V_lload_n C d_rp_penalty_35 2 rfl ?_
        refine V_last C 6 _ (by decide) rfl rfl (by omega) (by decide) d_rp_penalty_36 ?_
        refine V_iconst C d_rp_penalty_37 ?_
        exact V_zret C hr d_rp_penalty_38 (by decide) (zB_t (by omega)) (by rw [if_pos (by omega)]; rfl)
      · have hl2 : 1000000000 < c0 := by split at hl2; omega; split at hl2 <;> omega
        refine V_iconst C d_rp_penalty_25 ?_
        exact V_zret C hr d_rp_penalty_26 (by decide) (zB_f (by omega)) (by rw [if_neg (by omega)])

set_option maxRecDepth 20000 in
set_option maxHeartbeats 4000000 in
theorem c_rp_vehicle (l : Launch) (w : zW) (σ : Nat → Nat → Int) (a b d r : Int) (ha : rI a) (hb : rI b) (hd : rI d) (hq : rI r) (nv : Nat) (hv : σ 1 1 = (nv : Int)) (hv3 : nv ≤ 3) : zMi l w LL CC g_rp_vehicle rm_rp_vehicle [.ref (w.1 0), .int (zI (a)), .int (zI (b)), .int (zI (d)), .int (zI (r))] σ (if nv < 3 ∧ 0 ≤ a ∧ a ≤ 1000000 ∧ 0 ≤ b ∧ b ≤ d ∧ d ≤ 86399 ∧ 0 ≤ r ∧ r ≤ 1000 then (nv : Int) else -1) (if nv < 3 ∧ 0 ≤ a ∧ a ≤ 1000000 ∧ 0 ≤ b ∧ b ≤ d ∧ d ≤ 86399 ∧ 0 ≤ r ∧ r ≤ 1000 then zU (zU (zU (zU (zU σ 12 nv a) 13 nv b) 14 nv d) 15 nv r) 1 1 (nv + 1) else σ) := by
  refine zMi.of g_rp_vehicle (by decide +kernel) (Nat.le_of_ble_eq_true rfl) rfl ?_
  intro p e u m args below meth c C hr
  have C : zC p u m args meth c prog_1_method_5_code 5 "RoundPlans" w LL CC := C
  have hr : meth.sig.returnType = (some .int) := hr
  obtain ⟨ha1, ha2⟩ := id ha
  obtain ⟨hb1, hb2⟩ := id hb
  obtain ⟨hd1, hd2⟩ := id hd
  obtain ⟨hq1, hq2⟩ := id hq
  show V p l e rm_rp_vehicle u m args below meth c 5 w LL CC 0 0 (MQ below (zQi w LL CC (if nv < 3 ∧ 0 ≤ a ∧ a ≤ 1000000 ∧ 0 ≤ b ∧ b ≤ d ∧ d ≤ 86399 ∧ 0 ≤ r ∧ r ≤ 1000 then (nv : Int) else -1) (if nv < 3 ∧ 0 ≤ a ∧ a ≤ 1000000 ∧ 0 ≤ b ∧ b ≤ d ∧ d ≤ 86399 ∧ 0 ≤ r ∧ r ≤ 1000 then zU (zU (zU (zU (zU σ 12 nv a) 13 nv b) 14 nv d) 15 nv r) 1 1 (nv + 1) else σ) u.heap.size) args u 0 0 (zA w LL.1 u.heap.size)) 0 [(0, .ref (w.1 0)), (1, .int (zI (a))), (2, .int (zI (b))), (3, .int (zI (d))), (4, .int (zI (r)))] [] σ
  refine V_aload_n C d_rp_vehicle_0 0 rfl ?_
  refine V_getr C 0 0 1 (by decide) rfl rfl in_rp (by decide) rfl wd_197 d_rp_vehicle_1 ?_
  refine V_geti C 1 1 (by decide) rfl rfl in_td (by decide) rfl wd_38 d_rp_vehicle_4 ?_
  refine V_ti hv ?_
  refine V_iconst C d_rp_vehicle_7 ?_
  refine V_cmpge C 39 d_rp_vehicle_8 (by decide) ⟨by omega, by omega⟩ ⟨by omega, by omega⟩ (fun h1 => ?_) (fun h1 => ?_)
  · refine V_iconst C d_rp_vehicle_39 ?_
    exact V_iret C hr d_rp_vehicle_40 (by rw [if_neg (by omega)]) (by rw [if_neg (by omega)])
  · refine V_iload_n C d_rp_vehicle_11 1 rfl ?_
    refine V_ldc C (1000000) d_rp_vehicle_12 wd_243 ?_
    refine V_callSi C (c_rp_isWithin l w σ a 1000000 ha ⟨by omega, by omega⟩) wd_215 wd_216 wd_1 wd_217 o_rp_isWithin ⟨rfl, rfl, Nat.le_of_ble_eq_true rfl, Nat.le_of_ble_eq_true rfl⟩ rfl rfl (Nat.le_of_ble_eq_true rfl) d_rp_vehicle_14 ⟨Nat.zero_le _, Nat.zero_le _⟩ ?_
    refine V_ifeqB C 39 d_rp_vehicle_17 (by decide) (fun h2 => ?_) (fun h2 => ?_)
    · refine V_iconst C d_rp_vehicle_39 ?_
      exact V_iret C hr d_rp_vehicle_40 (by rw [if_neg (by omega)]) (by rw [if_neg (by omega)])
    · refine V_iload_n C d_rp_vehicle_20 2 rfl ?_
      refine V_iload_n C d_rp_vehicle_21 3 rfl ?_
      refine V_callSi C (c_rp_isSpan l w σ b d hb hd) wd_230 wd_231 wd_1 wd_232 o_rp_isSpan ⟨rfl, rfl, Nat.le_of_ble_eq_true rfl, Nat.le_of_ble_eq_true rfl⟩ rfl rfl (Nat.le_of_ble_eq_true rfl) d_rp_vehicle_22 ⟨Nat.zero_le _, Nat.zero_le _⟩ ?_
      refine V_ifeqB C 39 d_rp_vehicle_25 (by decide) (fun h3 => ?_) (fun h3 => ?_)
      · refine V_iconst C d_rp_vehicle_39 ?_
        exact V_iret C hr d_rp_vehicle_40 (by rw [if_neg (by omega)]) (by rw [if_neg (by omega)])
      · refine V_iload C d_rp_vehicle_28 4 rfl ?_
        refine V_sipush C d_rp_vehicle_30 (by decide) ?_
        refine V_callSi C (c_rp_isWithin l w σ r 1000 hq ⟨by omega, by omega⟩) wd_215 wd_216 wd_1 wd_217 o_rp_isWithin ⟨rfl, rfl, Nat.le_of_ble_eq_true rfl, Nat.le_of_ble_eq_true rfl⟩ rfl rfl (Nat.le_of_ble_eq_true rfl) d_rp_vehicle_33 ⟨Nat.zero_le _, Nat.zero_le _⟩ ?_
        refine V_ifneB C 41 d_rp_vehicle_36 (by decide) (fun h4 => ?_) (fun h4 => ?_)
        · refine V_aload_n C d_rp_vehicle_41 0 rfl ?_
          refine V_getr C 0 0 1 (by decide) rfl rfl in_rp (by decide) rfl wd_197 d_rp_vehicle_42 ?_
          refine V_iload_n C d_rp_vehicle_45 1 rfl ?_
          refine V_iload_n C d_rp_vehicle_46 2 rfl ?_
          refine V_iload_n C d_rp_vehicle_47 3 rfl ?_
          refine V_iload C d_rp_vehicle_48 4 rfl ?_
          refine V_callVi C 1 (by decide) rfl rfl (c_td_addVehicle l w σ a b d r nv hv (by omega)) wd_244 wd_245 wd_246 wd_2 wd_247 o_td_addVehicle ⟨rfl, rfl, Nat.le_of_ble_eq_true rfl, Nat.le_of_ble_eq_true rfl⟩ rfl rfl (Nat.le_of_ble_eq_true rfl) d_rp_vehicle_50 ⟨Nat.zero_le _, Nat.zero_le _⟩ ?_
          exact V_iret C hr d_rp_vehicle_53 (by rw [if_pos (by omega)]) (by rw [if_pos (by omega)])
        · refine V_iconst C d_rp_vehicle_39 ?_
          exact V_iret C hr d_rp_vehicle_40 (by rw [if_neg (by omega)]) (by rw [if_neg (by omega)])

set_option maxRecDepth 20000 in
set_option maxHeartbeats 4000000 in
theorem c_rp_way (l : Launch) (w : zW) (σ : Nat → Nat → Int) (a b q : Int) (ha : rI a) (hb : rI b) (hq : rI q) : zMi l w LL CC g_rp_way rm_rp_way [.ref (w.1 0), .int (zI (a)), .int (zI (b)), .int (zI (q))] σ (zB (0 ≤ a ∧ a ≤ 7 ∧ 0 ≤ b ∧ b ≤ 7 ∧ a ≠ b ∧ 0 ≤ q ∧ q ≤ 50000)) (if 0 ≤ a ∧ a ≤ 7 ∧ 0 ≤ b ∧ b ≤ 7 ∧ a ≠ b ∧ 0 ≤ q ∧ q ≤ 50000 then zU σ 16 (a.toNat * 8 + b.toNat) q else σ) := by
  refine zMi.of g_rp_way (by decide +kernel) (Nat.le_of_ble_eq_true rfl) rfl ?_
  intro p e u m args below meth c C hr
  have C : zC p u m args meth c prog_1_method_6_code 4 "RoundPlans" w LL CC := C
  have hr : meth.sig.returnType = (some .boolean) := hr
  obtain ⟨ha1, ha2⟩ := id ha
  obtain ⟨hb1, hb2⟩ := id hb
  obtain ⟨hq1, hq2⟩ := id hq
  show V p l e rm_rp_way u m args below meth c 4 w LL CC 0 0 (MQ below (zQi w LL CC (zB (0 ≤ a ∧ a ≤ 7 ∧ 0 ≤ b ∧ b ≤ 7 ∧ a ≠ b ∧ 0 ≤ q ∧ q ≤ 50000)) (if 0 ≤ a ∧ a ≤ 7 ∧ 0 ≤ b ∧ b ≤ 7 ∧ a ≠ b ∧ 0 ≤ q ∧ q ≤ 50000 then zU σ 16 (a.toNat * 8 + b.toNat) q else σ) u.heap.size) args u 0 0 (zA w LL.1 u.heap.size)) 0 [(0, .ref (w.1 0)), (1, .int (zI (a))), (2, .int (zI (b))), (3, .int (zI (q)))] [] σ
  refine V_iload_n C d_rp_way_0 1 rfl ?_
  refine V_bipush C d_rp_way_1 (by decide) ?_
  refine V_callSi C (c_rp_isWithin l w σ a 7 ha ⟨by omega, by omega⟩) wd_215 wd_216 wd_1 wd_217 o_rp_isWithin ⟨rfl, rfl, Nat.le_of_ble_eq_true rfl, Nat.le_of_ble_eq_true rfl⟩ rfl rfl (Nat.le_of_ble_eq_true rfl) d_rp_way_3 ⟨Nat.zero_le _, Nat.zero_le _⟩ ?_
  refine V_ifeqB C 32 d_rp_way_6 (by decide) (fun h1 => ?_) (fun h1 => ?_)
  · refine V_iconst C d_rp_way_32 ?_
    exact V_zret C hr d_rp_way_33 (by decide) (zB_f (by omega)) (by rw [if_neg (by omega)])
  · refine V_iload_n C d_rp_way_9 2 rfl ?_
    refine V_bipush C d_rp_way_10 (by decide) ?_
    refine V_callSi C (c_rp_isWithin l w σ b 7 hb ⟨by omega, by omega⟩) wd_215 wd_216 wd_1 wd_217 o_rp_isWithin ⟨rfl, rfl, Nat.le_of_ble_eq_true rfl, Nat.le_of_ble_eq_true rfl⟩ rfl rfl (Nat.le_of_ble_eq_true rfl) d_rp_way_12 ⟨Nat.zero_le _, Nat.zero_le _⟩ ?_
    refine V_ifeqB C 32 d_rp_way_15 (by decide) (fun h2 => ?_) (fun h2 => ?_)
    · refine V_iconst C d_rp_way_32 ?_
      exact V_zret C hr d_rp_way_33 (by decide) (zB_f (by omega)) (by rw [if_neg (by omega)])
    · refine V_iload_n C d_rp_way_18 1 rfl ?_
      refine V_iload_n C d_rp_way_19 2 rfl ?_
      refine V_cmpeq C 32 d_rp_way_20 (by decide) ⟨by omega, by omega⟩ ⟨by omega, by omega⟩ (fun h3 => ?_) (fun h3 => ?_)
      · refine V_iconst C d_rp_way_32 ?_
        exact V_zret C hr d_rp_way_33 (by decide) (zB_f (by omega)) (by rw [if_neg (by omega)])
      · refine V_iload_n C d_rp_way_23 3 rfl ?_
        refine V_ldc C (50000) d_rp_way_24 wd_252 ?_
        refine V_callSi C (c_rp_isWithin l w σ q 50000 hq ⟨by omega, by omega⟩) wd_215 wd_216 wd_1 wd_217 o_rp_isWithin ⟨rfl, rfl, Nat.le_of_ble_eq_true rfl, Nat.le_of_ble_eq_true rfl⟩ rfl rfl (Nat.le_of_ble_eq_true rfl) d_rp_way_26 ⟨Nat.zero_le _, Nat.zero_le _⟩ ?_
        refine V_ifneB C 34 d_rp_way_29 (by decide) (fun h4 => ?_) (fun h4 => ?_)
        · obtain ⟨i, rfl⟩ : ∃ i : Nat, a = (i : Int) := ⟨a.toNat, by omega⟩
          obtain ⟨j, rfl⟩ : ∃ j : Nat, b = (j : Int) := ⟨b.toNat, by omega⟩
          refine V_aload_n C d_rp_way_34 0 rfl ?_
          refine V_getr C 0 0 1 (by decide) rfl rfl in_rp (by decide) rfl wd_197 d_rp_way_35 ?_
          refine V_getr C 1 16 16 (by decide) rfl rfl in_td (by decide) rfl wd_75 d_rp_way_38 ?_
          refine V_iload_n C d_rp_way_41 1 rfl ?_
          refine V_bipush C d_rp_way_42 (by decide) ?_
          refine V_imul C d_rp_way_44 ?_
          refine V_iload_n C d_rp_way_45 2 rfl ?_
          refine V_iadd C d_rp_way_46 ?_
          refine V_iload_n C d_rp_way_47 3 rfl ?_
          refine V_iast C 16 (i * 8 + j) (by decide) rfl (by omega) (by omega) (by decide) d_rp_way_48 ?_
          refine V_iconst C d_rp_way_49 ?_
          exact V_zret C hr d_rp_way_50 (by decide) (zB_t (by omega)) (by rw [if_pos (by omega)]; rfl)
        · refine V_iconst C d_rp_way_32 ?_
          exact V_zret C hr d_rp_way_33 (by decide) (zB_f (by omega)) (by rw [if_neg (by omega)])

set_option maxRecDepth 20000 in
set_option maxHeartbeats 4000000 in
theorem c_rp_fixed (l : Launch) (w : zW) (σ : Nat → Nat → Int) (k v : Int) (hk : rI k) (hq : rI v) (n : Nat) (hn : σ 1 0 = (n : Int)) (hn7 : n ≤ 7) (nv : Nat) (hv : σ 1 1 = (nv : Int)) (hv3 : nv ≤ 3) : zMi l w LL CC g_rp_fixed rm_rp_fixed [.ref (w.1 0), .int (zI (k)), .int (zI (v))] σ (zB (0 ≤ k ∧ k < n ∧ -1 ≤ v ∧ v < nv)) (if 0 ≤ k ∧ k < n ∧ -1 ≤ v ∧ v < nv then zU σ 7 k.toNat v else σ) := by
  refine zMi.of g_rp_fixed (by decide +kernel) (Nat.le_of_ble_eq_true rfl) rfl ?_
  intro p e u m args below meth c C hr
  have C : zC p u m args meth c prog_1_method_7_code 3 "RoundPlans" w LL CC := C
  have hr : meth.sig.returnType = (some .boolean) := hr
  obtain ⟨hk1, hk2⟩ := id hk
  obtain ⟨hq1, hq2⟩ := id hq
  show V p l e rm_rp_fixed u m args below meth c 3 w LL CC 0 0 (MQ below (zQi w LL CC (zB (0 ≤ k ∧ k < n ∧ -1 ≤ v ∧ v < nv)) (if 0 ≤ k ∧ k < n ∧ -1 ≤ v ∧ v < nv then zU σ 7 k.toNat v else σ) u.heap.size) args u 0 0 (zA w LL.1 u.heap.size)) 0 [(0, .ref (w.1 0)), (1, .int (zI (k))), (2, .int (zI (v)))] [] σ
  refine V_aload_n C d_rp_fixed_0 0 rfl ?_
  refine V_getr C 0 0 1 (by decide) rfl rfl in_rp (by decide) rfl wd_197 d_rp_fixed_1 ?_
  refine V_iload_n C d_rp_fixed_4 1 rfl ?_
  refine V_callVi C 1 (by decide) rfl rfl (c_td_hasStop l w σ k hk n hn hn7) wd_226 wd_227 wd_228 wd_2 wd_229 o_td_hasStop ⟨rfl, rfl, Nat.le_of_ble_eq_true rfl, Nat.le_of_ble_eq_true rfl⟩ rfl rfl (Nat.le_of_ble_eq_true rfl) d_rp_fixed_5 ⟨Nat.zero_le _, Nat.zero_le _⟩ ?_
  refine V_ifeqB C 27 d_rp_fixed_8 (by decide) (fun h1 => ?_) (fun h1 => ?_)
  · refine V_iconst C d_rp_fixed_27 ?_
    exact V_zret C hr d_rp_fixed_28 (by decide) (zB_f (by omega)) (by rw [if_neg (by omega)])
  · refine V_iload_n C d_rp_fixed_11 2 rfl ?_
    refine V_iconst C d_rp_fixed_12 ?_
    refine V_cmpeq C 29 d_rp_fixed_13 (by decide) ⟨by omega, by omega⟩ ⟨by omega, by omega⟩ (fun h2 => ?_) (fun h2 => ?_)
    · obtain ⟨i, rfl⟩ : ∃ i : Nat, k = (i : Int) := ⟨k.toNat, by omega⟩
      refine V_aload_n C d_rp_fixed_29 0 rfl ?_
      refine V_getr C 0 0 1 (by decide) rfl rfl in_rp (by decide) rfl wd_197 d_rp_fixed_30 ?_
      refine V_getr C 1 7 7 (by decide) rfl rfl in_td (by decide) rfl wd_55 d_rp_fixed_33 ?_
      refine V_iload_n C d_rp_fixed_36 1 rfl ?_
      refine V_iload_n C d_rp_fixed_37 2 rfl ?_
      refine V_iast C 7 _ (by decide) rfl rfl (by omega) (by decide) d_rp_fixed_38 ?_
      refine V_iconst C d_rp_fixed_39 ?_
      exact V_zret C hr d_rp_fixed_40 (by decide) (zB_t (by omega)) (by rw [if_pos (by omega)]; rfl)
    · refine V_aload_n C d_rp_fixed_16 0 rfl ?_
      refine V_getr C 0 0 1 (by decide) rfl rfl in_rp (by decide) rfl wd_197 d_rp_fixed_17 ?_
      refine V_iload_n C d_rp_fixed_20 2 rfl ?_
      refine V_callVi C 1 (by decide) rfl rfl (c_td_hasVehicle l w σ v hq nv hv hv3) wd_257 wd_258 wd_259 wd_2 wd_260 o_td_hasVehicle ⟨rfl, rfl, Nat.le_of_ble_eq_true rfl, Nat.le_of_ble_eq_true rfl⟩ rfl rfl (Nat.le_of_ble_eq_true rfl) d_rp_fixed_21 ⟨Nat.zero_le _, Nat.zero_le _⟩ ?_
      refine V_ifneB C 29 d_rp_fixed_24 (by decide) (fun h3 => ?_) (fun h3 => ?_)
      · obtain ⟨i, rfl⟩ : ∃ i : Nat, k = (i : Int) := ⟨k.toNat, by omega⟩
        refine V_aload_n C d_rp_fixed_29 0 rfl ?_
        refine V_getr C 0 0 1 (by decide) rfl rfl in_rp (by decide) rfl wd_197 d_rp_fixed_30 ?_
        refine V_getr C 1 7 7 (by decide) rfl rfl in_td (by decide) rfl wd_55 d_rp_fixed_33 ?_
        refine V_iload_n C d_rp_fixed_36 1 rfl ?_
        refine V_iload_n C d_rp_fixed_37 2 rfl ?_
        refine V_iast C 7 _ (by decide) rfl rfl (by omega) (by decide) d_rp_fixed_38 ?_
        refine V_iconst C d_rp_fixed_39 ?_
        exact V_zret C hr d_rp_fixed_40 (by decide) (zB_t (by omega)) (by rw [if_pos (by omega)]; rfl)
      · refine V_iconst C d_rp_fixed_27 ?_
        exact V_zret C hr d_rp_fixed_28 (by decide) (zB_f (by omega)) (by rw [if_neg (by omega)])

set_option maxRecDepth 20000 in
set_option maxHeartbeats 4000000 in
theorem c_rp_apart (l : Launch) (w : zW) (σ : Nat → Nat → Int) (a b t : Int) (ha : rI a) (hb : rI b) (ht : t = 0 ∨ t = 1) (hx : bd σ 8 7 0 127) (n : Nat) (hn : σ 1 0 = (n : Int)) (hn7 : n ≤ 7) : zMi l w LL CC g_rp_apart rm_rp_apart [.ref (w.1 0), .int (zI (a)), .int (zI (b)), .int (zI (t))] σ (zB (0 ≤ a ∧ a < n ∧ 0 ≤ b ∧ b < n ∧ a ≠ b)) (if 0 ≤ a ∧ a < n ∧ 0 ≤ b ∧ b < n ∧ a ≠ b then sApart σ a.toNat b.toNat t else σ) := by
  refine zMi.of g_rp_apart (by decide +kernel) (Nat.le_of_ble_eq_true rfl) rfl ?_
  intro p e u m args below meth c C hr
  have C : zC p u m args meth c prog_1_method_8_code 4 "RoundPlans" w LL CC := C
  have hr : meth.sig.returnType = (some .boolean) := hr
  obtain ⟨ha1, ha2⟩ := id ha
  obtain ⟨hb1, hb2⟩ := id hb
  show V p l e rm_rp_apart u m args below meth c 4 w LL CC 0 0 (MQ below (zQi w LL CC (zB (0 ≤ a ∧ a < n ∧ 0 ≤ b ∧ b < n ∧ a ≠ b)) (if 0 ≤ a ∧ a < n ∧ 0 ≤ b ∧ b < n ∧ a ≠ b then sApart σ a.toNat b.toNat t else σ) u.heap.size) args u 0 0 (zA w LL.1 u.heap.size)) 0 [(0, .ref (w.1 0)), (1, .int (zI (a))), (2, .int (zI (b))), (3, .int (zI (t)))] [] σ
  refine V_aload_n C d_rp_apart_0 0 rfl ?_
  refine V_getr C 0 0 1 (by decide) rfl rfl in_rp (by decide) rfl wd_197 d_rp_apart_1 ?_
  refine V_iload_n C d_rp_apart_4 1 rfl ?_
  refine V_iload_n C d_rp_apart_5 2 rfl ?_
  refine V_callVi C 1 (by decide) rfl rfl (c_td_areTwoStops l w σ a b ha hb n hn hn7) wd_265 wd_266 wd_267 wd_2 wd_268 o_td_areTwoStops ⟨rfl, rfl, Nat.le_of_ble_eq_true rfl, Nat.le_of_ble_eq_true rfl⟩ rfl rfl (Nat.le_of_ble_eq_true rfl) d_rp_apart_6 ⟨Nat.zero_le _, Nat.zero_le _⟩ ?_
  refine V_ifneB C 14 d_rp_apart_9 (by decide) (fun h1 => ?_) (fun h1 => ?_)
  · obtain ⟨i, rfl⟩ : ∃ i : Nat, a = (i : Int) := ⟨a.toNat, by omega⟩
    obtain ⟨j, rfl⟩ : ∃ j : Nat, b = (j : Int) := ⟨b.toNat, by omega⟩
    refine V_aload_n C d_rp_apart_14 0 rfl ?_
    refine V_getr C 0 0 1 (by decide) rfl rfl in_rp (by decide) rfl wd_197 d_rp_apart_15 ?_
    refine V_iload_n C d_rp_apart_18 1 rfl ?_
    refine V_iload_n C d_rp_apart_19 2 rfl ?_
    refine V_iload_n C d_rp_apart_20 3 rfl ?_
    refine V_callVv C 1 (by decide) rfl rfl (c_td_setApart l w σ i j (by omega) (by omega) (by omega) t ht hx) wd_270 wd_271 wd_272 wd_2 wd_273 o_td_setApart ⟨rfl, rfl, Nat.le_of_ble_eq_true rfl, Nat.le_of_ble_eq_true rfl⟩ rfl rfl (Nat.le_of_ble_eq_true rfl) d_rp_apart_21 ⟨Nat.zero_le _, Nat.zero_le _⟩ ?_
    refine V_iconst C d_rp_apart_24 ?_
    exact V_zret C hr d_rp_apart_25 (by decide) (zB_t (by omega)) (by rw [if_pos (by omega)]; rfl)
  · refine V_iconst C d_rp_apart_12 ?_
    exact V_zret C hr d_rp_apart_13 (by decide) (zB_f (by omega)) (by rw [if_neg (by omega)])

set_option maxRecDepth 20000 in
set_option maxHeartbeats 4000000 in
theorem c_rp_before (l : Launch) (w : zW) (σ : Nat → Nat → Int) (a b : Int) (ha : rI a) (hb : rI b) (n : Nat) (hn : σ 1 0 = (n : Int)) (hn7 : n ≤ 7) (h9 : bd σ 9 7 0 127) (h10 : bd σ 10 7 0 127) (h11 : bd σ 11 7 0 127) : zMi l w LL CC g_rp_before rm_rp_before [.ref (w.1 0), .int (zI (a)), .int (zI (b))] σ (zB (0 ≤ a ∧ a < n ∧ 0 ≤ b ∧ b < n ∧ a ≠ b ∧ ¬ (σ 10 a.toNat).toNat.testBit b.toNat = true ∧ ¬ (σ 11 b.toNat).toNat.testBit a.toNat = true)) (if 0 ≤ a ∧ a < n ∧ 0 ≤ b ∧ b < n ∧ a ≠ b ∧ ¬ (σ 10 a.toNat).toNat.testBit b.toNat = true ∧ ¬ (σ 11 b.toNat).toNat.testBit a.toNat = true then sBefore σ n a.toNat b.toNat else σ) := by
  refine zMi.of g_rp_before (by decide +kernel) (Nat.le_of_ble_eq_true rfl) rfl ?_
  intro p e u m args below meth c C hr
  have C : zC p u m args meth c prog_1_method_9_code 3 "RoundPlans" w LL CC := C
  have hr : meth.sig.returnType = (some .boolean) := hr
  obtain ⟨ha3, ha4⟩ := id ha
  obtain ⟨hb3, hb4⟩ := id hb
  show V p l e rm_rp_before u m args below meth c 3 w LL CC 0 0 (MQ below (zQi w LL CC (zB (0 ≤ a ∧ a < n ∧ 0 ≤ b ∧ b < n ∧ a ≠ b ∧ ¬ (σ 10 a.toNat).toNat.testBit b.toNat = true ∧ ¬ (σ 11 b.toNat).toNat.testBit a.toNat = true)) (if 0 ≤ a ∧ a < n ∧ 0 ≤ b ∧ b < n ∧ a ≠ b ∧ ¬ (σ 10 a.toNat).toNat.testBit b.toNat = true ∧ ¬ (σ 11 b.toNat).toNat.testBit a.toNat = true then sBefore σ n a.toNat b.toNat else σ) u.heap.size) args u 0 0 (zA w LL.1 u.heap.size)) 0 [(0, .ref (w.1 0)), (1, .int (zI (a))), (2, .int (zI (b)))] [] σ
  refine V_aload_n C d_rp_before_0 0 rfl ?_
  refine V_getr C 0 0 1 (by decide) rfl rfl in_rp (by decide) rfl wd_197 d_rp_before_1 ?_
  refine V_iload_n C d_rp_before_4 1 rfl ?_
  refine V_iload_n C d_rp_before_5 2 rfl ?_
  refine V_callVi C 1 (by decide) rfl rfl (c_td_areTwoStops l w σ a b ha hb n hn hn7) wd_265 wd_266 wd_267 wd_2 wd_268 o_td_areTwoStops ⟨rfl, rfl, Nat.le_of_ble_eq_true rfl, Nat.le_of_ble_eq_true rfl⟩ rfl rfl (Nat.le_of_ble_eq_true rfl) d_rp_before_6 ⟨Nat.zero_le _, Nat.zero_le _⟩ ?_
  refine V_ifeqB C 44 d_rp_before_9 (by decide) (fun ht => ?_) (fun ht => ?_)
  · refine V_iconst C d_rp_before_44 ?_
    exact V_zret C hr d_rp_before_45 (by decide) (zB_f (by intro z; first | omega | (exact z.2.2.2.2.2.1 hb1) | (exact z.2.2.2.2.2.2 hb2))) (by rw [if_neg (by intro z; first | omega | (exact z.2.2.2.2.2.1 hb1) | (exact z.2.2.2.2.2.2 hb2))])
  · obtain ⟨i, rfl⟩ : ∃ i : Nat, a = (i : Int) := ⟨a.toNat, by omega⟩
    obtain ⟨j, rfl⟩ : ∃ j : Nat, b = (j : Int) := ⟨b.toNat, by omega⟩
    refine V_aload_n C d_rp_before_12 0 rfl ?_
    refine V_getr C 0 0 1 (by decide) rfl rfl in_rp (by decide) rfl wd_197 d_rp_before_13 ?_
    refine V_getr C 1 10 10 (by decide) rfl rfl in_td (by decide) rfl wd_62 d_rp_before_16 ?_
    refine V_iload_n C d_rp_before_19 1 rfl ?_
    refine V_iald C 10 _ (by decide) rfl rfl (by omega) (by decide) d_rp_before_20 ?_
    refine V_ti (b := (((σ 10 i).toNat : Nat) : Int)) (by show σ 10 i = _; have := h10 i (by omega); omega) ?_
    refine V_iload_n C d_rp_before_21 2 rfl ?_
    refine V_callSi C (c_rp_holds l w σ (σ 10 i).toNat j (by have := h10 i (by omega); omega) (by omega)) wd_284 wd_285 wd_1 wd_286 o_rp_holds ⟨rfl, rfl, Nat.le_of_ble_eq_true rfl, Nat.le_of_ble_eq_true rfl⟩ rfl rfl (Nat.le_of_ble_eq_true rfl) d_rp_before_22 ⟨Nat.zero_le _, Nat.zero_le _⟩ ?_
    refine V_ifneB C 44 d_rp_before_25 (by decide) (fun hb1 => ?_) (fun hb1 => ?_)
    · refine V_iconst C d_rp_before_44 ?_
      exact V_zret C hr d_rp_before_45 (by decide) (zB_f (by intro z; first | omega | (exact z.2.2.2.2.2.1 hb1) | (exact z.2.2.2.2.2.2 hb2))) (by rw [if_neg (by intro z; first | omega | (exact z.2.2.2.2.2.1 hb1) | (exact z.2.2.2.2.2.2 hb2))])
    · refine V_aload_n C d_rp_before_28 0 rfl ?_
      refine V_getr C 0 0 1 (by decide) rfl rfl in_rp (by decide) rfl wd_197 d_rp_before_29 ?_
      refine V_getr C 1 11 11 (by decide) rfl rfl in_td (by decide) rfl wd_64 d_rp_before_32 ?_
      refine V_iload_n C d_rp_before_35 2 rfl ?_
      refine V_iald C 11 _ (by decide) rfl rfl (by omega) (by decide) d_rp_before_36 ?_
      refine V_ti (b := (((σ 11 j).toNat : Nat) : Int)) (by show σ 11 j = _; have := h11 j (by omega); omega) ?_
      refine V_iload_n C d_rp_before_37 1 rfl ?_
      refine V_callSi C (c_rp_holds l w σ (σ 11 j).toNat i (by have := h11 j (by omega); omega) (by omega)) wd_284 wd_285 wd_1 wd_286 o_rp_holds ⟨rfl, rfl, Nat.le_of_ble_eq_true rfl, Nat.le_of_ble_eq_true rfl⟩ rfl rfl (Nat.le_of_ble_eq_true rfl) d_rp_before_38 ⟨Nat.zero_le _, Nat.zero_le _⟩ ?_
      refine V_ifeqB C 46 d_rp_before_41 (by decide) (fun hb2 => ?_) (fun hb2 => ?_)
      · refine V_aload_n C d_rp_before_46 0 rfl ?_
        refine V_getr C 0 0 1 (by decide) rfl rfl in_rp (by decide) rfl wd_197 d_rp_before_47 ?_
        refine V_iload_n C d_rp_before_50 1 rfl ?_
        refine V_iload_n C d_rp_before_51 2 rfl ?_
        refine V_callVv C 1 (by decide) rfl rfl (c_td_setBefore l w σ i j (by omega) (by omega) n hn hn7 h9 h10 h11) wd_287 wd_288 wd_289 wd_2 wd_290 o_td_setBefore ⟨rfl, rfl, Nat.le_of_ble_eq_true rfl, Nat.le_of_ble_eq_true rfl⟩ rfl rfl (Nat.le_of_ble_eq_true rfl) d_rp_before_52 ⟨Nat.zero_le _, Nat.zero_le _⟩ ?_
        refine V_iconst C d_rp_before_55 ?_
        exact V_zret C hr d_rp_before_56 (by decide) (zB_t ⟨by omega, by omega, by omega, by omega, by omega, hb1, hb2⟩) (by rw [if_pos ⟨by omega, by omega, by omega, by omega, by omega, hb1, hb2⟩]; rfl)
      · refine V_iconst C d_rp_before_44 ?_
        exact V_zret C hr d_rp_before_45 (by decide) (zB_f (by intro z; first | omega | (exact z.2.2.2.2.2.1 hb1) | (exact z.2.2.2.2.2.2 hb2))) (by rw [if_neg (by intro z; first | omega | (exact z.2.2.2.2.2.1 hb1) | (exact z.2.2.2.2.2.2 hb2))])

set_option maxRecDepth 20000 in
set_option maxHeartbeats 4000000 in
theorem c_rp_cost (l : Launch) (w : zW) (σ : Nat → Nat → Int)  : zMl l w LL CC g_rp_cost rm_rp_cost [.ref (w.1 0)] σ (σ 25 2) (σ) := by
  refine zMl.of g_rp_cost (by decide +kernel) (Nat.le_of_ble_eq_true rfl) rfl ?_
  intro p e u m args below meth c C hr
  have C : zC p u m args meth c prog_1_method_11_code 1 "RoundPlans" w LL CC := C
  have hr : meth.sig.returnType = (some .long) := hr
  show V p l e rm_rp_cost u m args below meth c 1 w LL CC 0 0 (MQ below (zQl w LL CC (σ 25 2) (σ) u.heap.size) args u 0 0 (zA w LL.1 u.heap.size)) 0 [(0, .ref (w.1 0))] [] σ
  refine V_aload_n C d_rp_cost_0 0 rfl ?_
  refine V_getr C 0 3 25 (by decide) rfl rfl in_rp (by decide) rfl wd_200 d_rp_cost_1 ?_
  refine V_getl C 25 2 (by decide) rfl rfl in_fd (by decide) rfl wd_164 d_rp_cost_4 ?_
  exact V_lret C hr d_rp_cost_7 rfl rfl

set_option maxRecDepth 20000 in
set_option maxHeartbeats 4000000 in
theorem c_rp_vehicleOf (l : Launch) (w : zW) (σ : Nat → Nat → Int) (k : Int) (hk : rI k) (n : Nat) (hn : σ 25 0 = (n : Int)) (hn7 : n ≤ 7) : zMi l w LL CC g_rp_vehicleOf rm_rp_vehicleOf [.ref (w.1 0), .int (zI (k))] σ (if 0 ≤ k ∧ k < n then σ 26 k.toNat else -1) (σ) := by
  refine zMi.of g_rp_vehicleOf (by decide +kernel) (Nat.le_of_ble_eq_true rfl) rfl ?_
  intro p e u m args below meth c C hr
  have C : zC p u m args meth c prog_1_method_12_code 2 "RoundPlans" w LL CC := C
  have hr : meth.sig.returnType = (some .int) := hr
  obtain ⟨hk1, hk2⟩ := id hk
  show V p l e rm_rp_vehicleOf u m args below meth c 2 w LL CC 0 0 (MQ below (zQi w LL CC (if 0 ≤ k ∧ k < n then σ 26 k.toNat else -1) (σ) u.heap.size) args u 0 0 (zA w LL.1 u.heap.size)) 0 [(0, .ref (w.1 0)), (1, .int (zI (k)))] [] σ
  refine V_aload_n C d_rp_vehicleOf_0 0 rfl ?_
  refine V_getr C 0 3 25 (by decide) rfl rfl in_rp (by decide) rfl wd_200 d_rp_vehicleOf_1 ?_
  refine V_iload_n C d_rp_vehicleOf_4 1 rfl ?_
  refine V_callVi C 25 (by decide) rfl rfl (c_fd_hasStop l w σ k hk n hn hn7) wd_423 wd_424 wd_425 wd_6 wd_426 o_fd_hasStop ⟨rfl, rfl, Nat.le_of_ble_eq_true rfl, Nat.le_of_ble_eq_true rfl⟩ rfl rfl (Nat.le_of_ble_eq_true rfl) d_rp_vehicleOf_5 ⟨Nat.zero_le _, Nat.zero_le _⟩ ?_
  refine V_ifeqB C 23 d_rp_vehicleOf_8 (by decide) (fun h1 => ?_) (fun h1 => ?_)
  · refine V_iconst C d_rp_vehicleOf_23 ?_
    exact V_iret C hr d_rp_vehicleOf_24 (by rw [if_neg (by omega)]) rfl
  · obtain ⟨i, rfl⟩ : ∃ i : Nat, k = (i : Int) := ⟨k.toNat, by omega⟩
    refine V_aload_n C d_rp_vehicleOf_11 0 rfl ?_
    refine V_getr C 0 3 25 (by decide) rfl rfl in_rp (by decide) rfl wd_200 d_rp_vehicleOf_12 ?_
    refine V_getr C 25 3 26 (by decide) rfl rfl in_fd (by decide) rfl wd_166 d_rp_vehicleOf_15 ?_
    refine V_iload_n C d_rp_vehicleOf_18 1 rfl ?_
    refine V_iald C 26 _ (by decide) rfl rfl (by omega) (by decide) d_rp_vehicleOf_19 ?_
    refine V_goto C 24 d_rp_vehicleOf_20 (by decide) ?_
    exact V_iret C hr d_rp_vehicleOf_24 (by rw [if_pos (by omega)]; rfl) rfl

set_option maxRecDepth 20000 in
set_option maxHeartbeats 4000000 in
theorem c_rp_begun (l : Launch) (w : zW) (σ : Nat → Nat → Int) (k : Int) (hk : rI k) (n : Nat) (hn : σ 25 0 = (n : Int)) (hn7 : n ≤ 7) : zMi l w LL CC g_rp_begun rm_rp_begun [.ref (w.1 0), .int (zI (k))] σ (if 0 ≤ k ∧ k < n then σ 27 k.toNat else -1) (σ) := by
  refine zMi.of g_rp_begun (by decide +kernel) (Nat.le_of_ble_eq_true rfl) rfl ?_
  intro p e u m args below meth c C hr
  have C : zC p u m args meth c prog_1_method_14_code 2 "RoundPlans" w LL CC := C
  have hr : meth.sig.returnType = (some .int) := hr
  obtain ⟨hk1, hk2⟩ := id hk
  show V p l e rm_rp_begun u m args below meth c 2 w LL CC 0 0 (MQ below (zQi w LL CC (if 0 ≤ k ∧ k < n then σ 27 k.toNat else -1) (σ) u.heap.size) args u 0 0 (zA w LL.1 u.heap.size)) 0 [(0, .ref (w.1 0)), (1, .int (zI (k)))] [] σ
  refine V_aload_n C d_rp_begun_0 0 rfl ?_
  refine V_getr C 0 3 25 (by decide) rfl rfl in_rp (by decide) rfl wd_200 d_rp_begun_1 ?_
  refine V_iload_n C d_rp_begun_4 1 rfl ?_
  refine V_callVi C 25 (by decide) rfl rfl (c_fd_hasStop l w σ k hk n hn hn7) wd_423 wd_424 wd_425 wd_6 wd_426 o_fd_hasStop ⟨rfl, rfl, Nat.le_of_ble_eq_true rfl, Nat.le_of_ble_eq_true rfl⟩ rfl rfl (Nat.le_of_ble_eq_true rfl) d_rp_begun_5 ⟨Nat.zero_le _, Nat.zero_le _⟩ ?_
  refine V_ifeqB C 23 d_rp_begun_8 (by decide) (fun h1 => ?_) (fun h1 => ?_)
  · refine V_iconst C d_rp_begun_23 ?_
    exact V_iret C hr d_rp_begun_24 (by rw [if_neg (by omega)]) rfl
  · obtain ⟨i, rfl⟩ : ∃ i : Nat, k = (i : Int) := ⟨k.toNat, by omega⟩
    refine V_aload_n C d_rp_begun_11 0 rfl ?_
    refine V_getr C 0 3 25 (by decide) rfl rfl in_rp (by decide) rfl wd_200 d_rp_begun_12 ?_
    refine V_getr C 25 4 27 (by decide) rfl rfl in_fd (by decide) rfl wd_168 d_rp_begun_15 ?_
    refine V_iload_n C d_rp_begun_18 1 rfl ?_
    refine V_iald C 27 _ (by decide) rfl rfl (by omega) (by decide) d_rp_begun_19 ?_
    refine V_goto C 24 d_rp_begun_20 (by decide) ?_
    exact V_iret C hr d_rp_begun_24 (by rw [if_pos (by omega)]; rfl) rfl

set_option maxRecDepth 20000 in
set_option maxHeartbeats 4000000 in
theorem c_rp_back (l : Launch) (w : zW) (σ : Nat → Nat → Int) (k : Int) (hk : rI k) (nv : Nat) (hv : σ 25 1 = (nv : Int)) (hv3 : nv ≤ 3) : zMi l w LL CC g_rp_back rm_rp_back [.ref (w.1 0), .int (zI (k))] σ (if 0 ≤ k ∧ k < nv then σ 30 k.toNat else -1) (σ) := by
  refine zMi.of g_rp_back (by decide +kernel) (Nat.le_of_ble_eq_true rfl) rfl ?_
  intro p e u m args below meth c C hr
  have C : zC p u m args meth c prog_1_method_15_code 2 "RoundPlans" w LL CC := C
  have hr : meth.sig.returnType = (some .int) := hr
  obtain ⟨hk1, hk2⟩ := id hk
  show V p l e rm_rp_back u m args below meth c 2 w LL CC 0 0 (MQ below (zQi w LL CC (if 0 ≤ k ∧ k < nv then σ 30 k.toNat else -1) (σ) u.heap.size) args u 0 0 (zA w LL.1 u.heap.size)) 0 [(0, .ref (w.1 0)), (1, .int (zI (k)))] [] σ
  refine V_aload_n C d_rp_back_0 0 rfl ?_
  refine V_getr C 0 3 25 (by decide) rfl rfl in_rp (by decide) rfl wd_200 d_rp_back_1 ?_
  refine V_iload_n C d_rp_back_4 1 rfl ?_
  refine V_callVi C 25 (by decide) rfl rfl (c_fd_hasVehicle l w σ k hk nv hv hv3) wd_431 wd_432 wd_433 wd_6 wd_434 o_fd_hasVehicle ⟨rfl, rfl, Nat.le_of_ble_eq_true rfl, Nat.le_of_ble_eq_true rfl⟩ rfl rfl (Nat.le_of_ble_eq_true rfl) d_rp_back_5 ⟨Nat.zero_le _, Nat.zero_le _⟩ ?_
  refine V_ifeqB C 23 d_rp_back_8 (by decide) (fun h1 => ?_) (fun h1 => ?_)
  · refine V_iconst C d_rp_back_23 ?_
    exact V_iret C hr d_rp_back_24 (by rw [if_neg (by omega)]) rfl
  · obtain ⟨i, rfl⟩ : ∃ i : Nat, k = (i : Int) := ⟨k.toNat, by omega⟩
    refine V_aload_n C d_rp_back_11 0 rfl ?_
    refine V_getr C 0 3 25 (by decide) rfl rfl in_rp (by decide) rfl wd_200 d_rp_back_12 ?_
    refine V_getr C 25 7 30 (by decide) rfl rfl in_fd (by decide) rfl wd_175 d_rp_back_15 ?_
    refine V_iload_n C d_rp_back_18 1 rfl ?_
    refine V_iald C 30 _ (by decide) rfl rfl (by omega) (by decide) d_rp_back_19 ?_
    refine V_goto C 24 d_rp_back_20 (by decide) ?_
    exact V_iret C hr d_rp_back_24 (by rw [if_pos (by omega)]; rfl) rfl

set_option maxRecDepth 20000 in
set_option maxHeartbeats 4000000 in
theorem c_rp_saved (l : Launch) (w : zW) (σ : Nat → Nat → Int) (k : Int) (hk : rI k) (nv : Nat) (hv : σ 25 1 = (nv : Int)) (hv3 : nv ≤ 3) : zMl l w LL CC g_rp_saved rm_rp_saved [.ref (w.1 0), .int (zI (k))] σ (if 0 ≤ k ∧ k < nv then σ 31 k.toNat else -1) (σ) := by
  refine zMl.of g_rp_saved (by decide +kernel) (Nat.le_of_ble_eq_true rfl) rfl ?_
  intro p e u m args below meth c C hr
  have C : zC p u m args meth c prog_1_method_16_code 2 "RoundPlans" w LL CC := C
  have hr : meth.sig.returnType = (some .long) := hr
  obtain ⟨hk1, hk2⟩ := id hk
  show V p l e rm_rp_saved u m args below meth c 2 w LL CC 0 0 (MQ below (zQl w LL CC (if 0 ≤ k ∧ k < nv then σ 31 k.toNat else -1) (σ) u.heap.size) args u 0 0 (zA w LL.1 u.heap.size)) 0 [(0, .ref (w.1 0)), (1, .int (zI (k)))] [] σ
  refine V_aload_n C d_rp_saved_0 0 rfl ?_
  refine V_getr C 0 3 25 (by decide) rfl rfl in_rp (by decide) rfl wd_200 d_rp_saved_1 ?_
  refine V_iload_n C d_rp_saved_4 1 rfl ?_
  refine V_callVi C 25 (by decide) rfl rfl (c_fd_hasVehicle l w σ k hk nv hv hv3) wd_431 wd_432 wd_433 wd_6 wd_434 o_fd_hasVehicle ⟨rfl, rfl, Nat.le_of_ble_eq_true rfl, Nat.le_of_ble_eq_true rfl⟩ rfl rfl (Nat.le_of_ble_eq_true rfl) d_rp_saved_5 ⟨Nat.zero_le _, Nat.zero_le _⟩ ?_
  refine V_ifeqB C 23 d_rp_saved_8 (by decide) (fun h1 => ?_) (fun h1 => ?_)
  · refine V_ldc2 C (-1) d_rp_saved_23 (by rw [show zL (-1) = (-1 : Int64) by decide]; exact wd_447) ?_
    exact V_lret C hr d_rp_saved_26 (by rw [if_neg (by omega)]) rfl
  · obtain ⟨i, rfl⟩ : ∃ i : Nat, k = (i : Int) := ⟨k.toNat, by omega⟩
    refine V_aload_n C d_rp_saved_11 0 rfl ?_
    refine V_getr C 0 3 25 (by decide) rfl rfl in_rp (by decide) rfl wd_200 d_rp_saved_12 ?_
    refine V_getr C 25 8 31 (by decide) rfl rfl in_fd (by decide) rfl wd_177 d_rp_saved_15 ?_
    refine V_iload_n C d_rp_saved_18 1 rfl ?_
    refine V_lald C 31 _ (by decide) rfl rfl (by omega) (by decide) d_rp_saved_19 ?_
    refine V_goto C 26 d_rp_saved_20 (by decide) ?_
    exact V_lret C hr d_rp_saved_26 (by rw [if_pos (by omega)]; rfl) rfl

set_option maxRecDepth 20000 in
set_option maxHeartbeats 4000000 in
theorem c_rp_at (l : Launch) (w : zW) (σ : Nat → Nat → Int) (k j : Int) (hk : rI k) (hj : rI j) (hl : bd σ 29 3 0 7) (nv : Nat) (hv : σ 25 1 = (nv : Int)) (hv3 : nv ≤ 3) : zMi l w LL CC g_rp_at rm_rp_at [.ref (w.1 0), .int (zI (k)), .int (zI (j))] σ (if 0 ≤ k ∧ k < nv ∧ 0 ≤ j ∧ j < σ 29 k.toNat then σ 28 (k.toNat * 7 + j.toNat) else -1) (σ) := by
  refine zMi.of g_rp_at (by decide +kernel) (Nat.le_of_ble_eq_true rfl) rfl ?_
  intro p e u m args below meth c C hr
  have C : zC p u m args meth c prog_1_method_13_code 3 "RoundPlans" w LL CC := C
  have hr : meth.sig.returnType = (some .int) := hr
  obtain ⟨hk1, hk2⟩ := id hk
  obtain ⟨hj1, hj2⟩ := id hj
  show V p l e rm_rp_at u m args below meth c 3 w LL CC 0 0 (MQ below (zQi w LL CC (if 0 ≤ k ∧ k < nv ∧ 0 ≤ j ∧ j < σ 29 k.toNat then σ 28 (k.toNat * 7 + j.toNat) else -1) (σ) u.heap.size) args u 0 0 (zA w LL.1 u.heap.size)) 0 [(0, .ref (w.1 0)), (1, .int (zI (k))), (2, .int (zI (j)))] [] σ
  refine V_aload_n C d_rp_at_0 0 rfl ?_
  refine V_getr C 0 3 25 (by decide) rfl rfl in_rp (by decide) rfl wd_200 d_rp_at_1 ?_
  refine V_iload_n C d_rp_at_4 1 rfl ?_
  refine V_callVi C 25 (by decide) rfl rfl (c_fd_hasVehicle l w σ k hk nv hv hv3) wd_431 wd_432 wd_433 wd_6 wd_434 o_fd_hasVehicle ⟨rfl, rfl, Nat.le_of_ble_eq_true rfl, Nat.le_of_ble_eq_true rfl⟩ rfl rfl (Nat.le_of_ble_eq_true rfl) d_rp_at_5 ⟨Nat.zero_le _, Nat.zero_le _⟩ ?_
  refine V_ifeqB C 28 d_rp_at_8 (by decide) (fun h1 => ?_) (fun h1 => ?_)
  · refine V_iconst C d_rp_at_28 ?_
    exact V_iret C hr d_rp_at_29 (by rw [if_neg (by omega)]) rfl
  · refine V_iload_n C d_rp_at_11 2 rfl ?_
    refine V_iflt C 28 d_rp_at_12 (by decide) ⟨by omega, by omega⟩ (fun hj0 => ?_) (fun hj0 => ?_)
    · refine V_iconst C d_rp_at_28 ?_
      exact V_iret C hr d_rp_at_29 (by rw [if_neg (by omega)]) rfl
    · obtain ⟨i, rfl⟩ : ∃ i : Nat, k = (i : Int) := ⟨k.toNat, by omega⟩
      have hli := hl i (by omega)
      refine V_iload_n C d_rp_at_15 2 rfl ?_
      refine V_aload_n C d_rp_at_16 0 rfl ?_
      refine V_getr C 0 3 25 (by decide) rfl rfl in_rp (by decide) rfl wd_200 d_rp_at_17 ?_
      refine V_getr C 25 6 29 (by decide) rfl rfl in_fd (by decide) rfl wd_172 d_rp_at_20 ?_
      refine V_iload_n C d_rp_at_23 1 rfl ?_
      refine V_iald C 29 _ (by decide) rfl rfl (by omega) (by decide) d_rp_at_24 ?_
      refine V_cmplt C 30 d_rp_at_25 (by decide) ⟨by omega, by omega⟩ ⟨by omega, by omega⟩ (fun h3 => ?_) (fun h3 => ?_)
      · obtain ⟨y, rfl⟩ : ∃ y : Nat, j = (y : Int) := ⟨j.toNat, by omega⟩
        refine V_aload_n C d_rp_at_30 0 rfl ?_
        refine V_getr C 0 3 25 (by decide) rfl rfl in_rp (by decide) rfl wd_200 d_rp_at_31 ?_
        refine V_getr C 25 5 28 (by decide) rfl rfl in_fd (by decide) rfl wd_170 d_rp_at_34 ?_
        refine V_iload_n C d_rp_at_37 1 rfl ?_
        refine V_bipush C d_rp_at_38 (by decide) ?_
        refine V_imul C d_rp_at_40 ?_
        refine V_iload_n C d_rp_at_41 2 rfl ?_
        refine V_iadd C d_rp_at_42 ?_
        refine V_iald C 28 (i * 7 + y) (by decide) rfl (by omega) (by omega) (by decide) d_rp_at_43 ?_
        exact V_iret C hr d_rp_at_44 (by rw [if_pos (by rw [Int.toNat_natCast]; omega)]; rfl) rfl
      · refine V_iconst C d_rp_at_28 ?_
        exact V_iret C hr d_rp_at_29 (by rw [if_neg (by rw [Int.toNat_natCast]; omega)]) rfl
end
section
/-! ROUNDS: the class's tables, as its loops fill them -/
def wyS (σ : Nat → Nat → Int) (a b : Nat) : Int := σ 16 (a * 8 + b)
/-- mayHave: the load so far, none once it may not -/
def mhF (σ : Nat → Nat → Int) (v S : Nat) : Nat → Option Int
  | 0 => some 0
  | i + 1 => match mhF σ v S i with
    | none => none
    | some ld => if S.testBit i = true then (if (σ 7 i ≠ -1 ∧ σ 7 i ≠ (v : Int)) ∨ ¬ (σ 8 i).toNat &&& S = 0 then none else some (ld + σ 2 i)) else some ld
def mayB (σ : Nat → Nat → Int) (n v S : Nat) : Bool := match mhF σ v S n with
  | none => false
  | some ld => decide (ld ≤ σ 12 v)
theorem mhF_bd {σ : Nat → Nat → Int} {v S : Nat} (h : bd σ 2 7 0 100000) : ∀ i, i ≤ 7 → ∀ ld, mhF σ v S i = some ld → 0 ≤ ld ∧ ld ≤ 100000 * i
  | 0, _, ld, e => by
    unfold mhF at e; cases e; omega
  | i + 1, hi, ld, e => by
    unfold mhF at e
    cases h1 : mhF σ v S i with
    | none => rw [h1] at e; cases e
    | some x =>
      rw [h1] at e
      have hx := mhF_bd h i (by omega) x h1
      have hy := h i (by omega)
      dsimp only at e
      split at e
      · split at e
        · cases e
        · cases e; omega
      · cases e; omega
def thG (σ : Nat → Nat → Int) (v S s : Nat) : Nat → Int := mnF (fun i => (wo S s).testBit i) (fun i => σ 19 (wo S s * 7 + i) + wyS σ i s) (if wo S s = 0 then σ 13 v + wyS σ 7 s else NV)
def rdG (σ : Nat → Nat → Int) (n v S s : Nat) : Int :=
  if ¬ (σ 10 s).toNat &&& wo S s = 0 then NV else if σ 4 s < thG σ v S s n then NV else max (thG σ v S s n) (σ 3 s) + σ 5 s
theorem rdG_eq (σ : Nat → Nat → Int) (n v S s : Nat) : rdG σ n v S s = rdF n (wyS σ) (σ 3) (σ 4) (σ 5) (σ 13 v) (fun i => (σ 10 i).toNat) (fun S i => σ 19 (S * 7 + i)) S s := rfl
theorem mnF_ge {P : Nat → Bool} {f : Nat → Int} {x c : Int} {n : Nat} (hx : c ≤ x) (hf : ∀ i, i < n → P i = true → c ≤ f i) : c ≤ mnF P f x n := by
  rcases mnF_ex P f x n with h | ⟨i, h1, h2, h3⟩
  · rw [h]; exact hx
  · rw [h3]; exact hf i h1 h2
theorem mnF_congr {P : Nat → Bool} {f g : Nat → Int} {x : Int} : ∀ n, (∀ i, i < n → P i = true → f i = g i) → mnF P f x n = mnF P g x n
  | 0, _ => rfl
  | k + 1, h => by
    unfold mnF
    rw [mnF_congr k (fun i hi => h i (by omega))]
    split
    · rename_i h1; rw [h k (by omega) h1]
    · rfl
theorem wo_128 {S s : Nat} (h : S < 128) (hs : s < 7) : wo S s < 128 := by
  have h1 : wo S s ≤ S := by
    cases hb : S.testBit s with
    | true => have := wo_lt hb; omega
    | false =>
      have : wo S s = S := by
        apply Nat.eq_of_testBit_eq
        intro i
        rw [wo_bit]
        by_cases hi : s = i
        · subst hi; simp [hb]
        · simp [hi]
      omega
  omega
theorem thG_bd {σ : Nat → Nat → Int} {n nv v S s : Nat} (hT : tI σ n nv) (hR : bd σ 19 896 0 1073741824) (hv : v < 3) (hS : S < 128) (hs : s < 7) (i : Nat) (hi : i ≤ 7) : 0 ≤ thG σ v S s i ∧ thG σ v S s i ≤ 1073741824 := by
  obtain ⟨-, -, -, -, -, -, -, -, -, -, -, -, -, -, -, h13, -, -, h16⟩ := hT
  have hw := wo_128 hS hs
  have h1 := h13 v hv
  have h2 := h16 (7 * 8 + s) (by omega)
  have hx : 0 ≤ (if wo S s = 0 then σ 13 v + wyS σ 7 s else NV) ∧ (if wo S s = 0 then σ 13 v + wyS σ 7 s else NV) ≤ 1073741824 := by
    unfold wyS NV
    split <;> omega
  refine ⟨mnF_ge hx.1 (fun j hj _ => ?_), Int.le_trans (mnF_x _ _ _ _) hx.2⟩
  have h3 := hR (wo S s * 7 + j) (by omega)
  have h4 := h16 (j * 8 + s) (by omega)
  unfold wyS
  omega
theorem rdG_bd {σ : Nat → Nat → Int} {n nv v S s : Nat} (hT : tI σ n nv) (hR : bd σ 19 896 0 1073741824) (hv : v < 3) (hS : S < 128) (hs : s < 7) : 0 ≤ rdG σ n v S s ∧ rdG σ n v S s ≤ 1073741824 := by
  have h1 := thG_bd hT hR hv hS hs n hT.2.1
  obtain ⟨-, -, -, -, -, h3, h4, h5, -⟩ := hT
  have a3 := h3 s hs
  have a4 := h4 s hs
  have a5 := h5 s hs
  unfold rdG NV
  split
  · omega
  · split <;> omega
theorem rdG_congr {σ σ' : Nat → Nat → Int} {n v S s : Nat} (h : ∀ k, k ≠ 19 → k ≠ 18 → σ' k = σ k) (hr : ∀ i, i < n → σ' 19 (wo S s * 7 + i) = σ 19 (wo S s * 7 + i)) : rdG σ' n v S s = rdG σ n v S s := by
  have e : thG σ' v S s n = thG σ v S s n := by
    unfold thG wyS
    rw [h 13 (by decide) (by decide), h 16 (by decide) (by decide)]
    exact mnF_congr n (fun i hi _ => by rw [hr i hi])
  unfold rdG
  rw [e, h 10 (by decide) (by decide), h 4 (by decide) (by decide), h 3 (by decide) (by decide), h 5 (by decide) (by decide)]
/-- findBack: the ready row of S, and the back -/
def fbS (σ : Nat → Nat → Int) (n v S : Nat) : Nat → Nat → Nat → Int
  | 0 => σ
  | i + 1 => if S.testBit i = true then zU (fbS σ n v S i) 19 (S * 7 + i) (rdG σ n v S i) else fbS σ n v S i
def fbB (σ : Nat → Nat → Int) (n v S : Nat) : Nat → Int := mnF (fun i => S.testBit i) (fun i => rdG σ n v S i + wyS σ i 7) NV
def fbR (σ : Nat → Nat → Int) (n v S : Nat) : Int := if fbB σ n v S n ≤ σ 14 v then fbB σ n v S n else NV
theorem fbS_ne {σ : Nat → Nat → Int} {n v S k : Nat} (hk : k ≠ 19) : ∀ i, fbS σ n v S i k = σ k
  | 0 => rfl
  | i + 1 => by
    unfold fbS
    split
    · rw [zU_ne hk, fbS_ne hk i]
    · exact fbS_ne hk i
theorem fbS_out {σ : Nat → Nat → Int} {n v S j : Nat} : ∀ i, (j < S * 7 ∨ S * 7 + i ≤ j) → fbS σ n v S i 19 j = σ 19 j
  | 0, _ => rfl
  | i + 1, h => by
    unfold fbS
    split
    · rw [zU_nj (by omega), fbS_out i (by omega)]
    · exact fbS_out i (by omega)
theorem fbS_rd {σ : Nat → Nat → Int} {n v S s : Nat} (hn : n ≤ 7) (hb : S.testBit s = true) (i : Nat) : rdG (fbS σ n v S i) n v S s = rdG σ n v S s := by
  have := wo_lt hb
  exact rdG_congr (fun k h1 _ => fbS_ne h1 i) (fun j hj => fbS_out i (by omega))
theorem fbS_bd {σ : Nat → Nat → Int} {n nv v S : Nat} (hT : tI σ n nv) (hR : bd σ 19 896 0 1073741824) (hv : v < 3) (hS : S < 128) : ∀ i, i ≤ 7 → bd (fbS σ n v S i) 19 896 0 1073741824
  | 0, _ => hR
  | i + 1, hi => by
    intro j hj
    have ih := fbS_bd hT hR hv hS i (by omega) j hj
    unfold fbS
    split
    · by_cases h : j = S * 7 + i
      · subst h
        rw [zU_self]
        exact rdG_bd hT hR hv hS (by omega)
      · rw [zU_nj h]; exact ih
    · exact ih
theorem fbB_bd {σ : Nat → Nat → Int} {n nv v S : Nat} (hT : tI σ n nv) (hR : bd σ 19 896 0 1073741824) (hv : v < 3) (hS : S < 128) (i : Nat) (hi : i ≤ 7) : 0 ≤ fbB σ n v S i ∧ fbB σ n v S i ≤ 1073741824 := by
  refine ⟨mnF_ge (by decide) (fun j hj _ => ?_), mnF_x _ _ _ _⟩
  have h1 := rdG_bd (s := j) hT hR hv hS (by omega)
  obtain ⟨-, -, -, -, -, -, -, -, -, -, -, -, -, -, -, -, -, -, h16⟩ := hT
  have h2 := h16 (j * 8 + 7) (by omega)
  unfold wyS
  omega
/-- findBacks: of one vehicle, the sets 1 .. j -/
def bkI (σ : Nat → Nat → Int) (n v : Nat) : Nat → Nat → Nat → Int
  | 0 => σ
  | j + 1 => if mayB (bkI σ n v j) n v (j + 1) = true then zU (fbS (bkI σ n v j) n v (j + 1) n) 18 (v * 128 + (j + 1)) (fbR (bkI σ n v j) n v (j + 1)) else zU (bkI σ n v j) 18 (v * 128 + (j + 1)) NV
def bkO (σ : Nat → Nat → Int) (n : Nat) : Nat → Nat → Nat → Int
  | 0 => σ
  | v + 1 => bkI (bkO σ n v) n v (2 ^ n - 1)
theorem bkI_ne {σ : Nat → Nat → Int} {n v k : Nat} (h1 : k ≠ 19) (h2 : k ≠ 18) : ∀ j, bkI σ n v j k = σ k
  | 0 => rfl
  | j + 1 => by
    unfold bkI
    split
    · rw [zU_ne h2, fbS_ne h1, bkI_ne h1 h2 j]
    · rw [zU_ne h2, bkI_ne h1 h2 j]
theorem bkO_ne {σ : Nat → Nat → Int} {n k : Nat} (h1 : k ≠ 19) (h2 : k ≠ 18) : ∀ v, bkO σ n v k = σ k
  | 0 => rfl
  | v + 1 => by
    unfold bkO
    rw [bkI_ne h1 h2, bkO_ne h1 h2 v]
theorem bkI_bd {σ : Nat → Nat → Int} {n nv v : Nat} (hT : tI σ n nv) (hR : bd σ 19 896 0 1073741824) (hv : v < 3) : ∀ j, j < 128 → bd (bkI σ n v j) 19 896 0 1073741824
  | 0, _ => hR
  | j + 1, hj => by
    have ih := bkI_bd hT hR hv j (by omega)
    have hT' : tI (bkI σ n v j) n nv := hT.congr (fun k hk => bkI_ne (by omega) (by omega) j)
    intro i hi
    unfold bkI
    split
    · rw [zU_ne (by decide)]
      exact fbS_bd hT' ih hv (by omega) n hT.2.1 i hi
    · rw [zU_ne (by decide)]
      exact ih i hi
theorem pow_n {n : Nat} (h : n ≤ 7) : 1 ≤ 2 ^ n ∧ 2 ^ n ≤ 128 := ⟨Nat.one_le_two_pow, Nat.le_trans (Nat.pow_le_pow_right (by omega) h) (by decide)⟩
theorem bkO_bd {σ : Nat → Nat → Int} {n nv : Nat} (hT : tI σ n nv) (hR : bd σ 19 896 0 1073741824) : ∀ v, v ≤ 3 → bd (bkO σ n v) 19 896 0 1073741824
  | 0, _ => hR
  | v + 1, hv => by
    have ih := bkO_bd hT hR v (by omega)
    have hT' : tI (bkO σ n v) n nv := hT.congr (fun k hk => bkO_ne (by omega) (by omega) v)
    have := pow_n hT.2.1
    unfold bkO
    exact bkI_bd hT' ih (by omega) _ (by omega)
theorem mhF_no {σ : Nat → Nat → Int} {v S i : Nat} (h : mhF σ v S i = none) : ∀ j, i ≤ j → mhF σ v S j = none := by
  intro j hj
  induction j with
  | zero => have : i = 0 := by omega
            subst this; exact h
  | succ j ih =>
    by_cases e : i = j + 1
    · subst e; exact h
    · unfold mhF; rw [ih (by omega)]
theorem mayB_no {σ : Nat → Nat → Int} {n v S i : Nat} {ld : Int} (hi : i < n) (hld : mhF σ v S i = some ld) (hb : S.testBit i = true) (hc : (σ 7 i ≠ -1 ∧ σ 7 i ≠ (v : Int)) ∨ ¬ (σ 8 i).toNat &&& S = 0) : ¬ mayB σ n v S = true := by
  have h : mhF σ v S (i + 1) = none := by
    unfold mhF; rw [hld]; dsimp only; rw [if_pos hb, if_pos hc]
  unfold mayB
  rw [mhF_no h n hi]
  simp
theorem mhF_f {σ : Nat → Nat → Int} {v S i : Nat} {ld : Int} (hld : mhF σ v S i = some ld) (hb : ¬ S.testBit i = true) : mhF σ v S (i + 1) = some ld := by
  unfold mhF; rw [hld]; dsimp only; rw [if_neg hb]
theorem mhF_t {σ : Nat → Nat → Int} {v S i : Nat} {ld : Int} (hld : mhF σ v S i = some ld) (hb : S.testBit i = true) (hc : ¬ ((σ 7 i ≠ -1 ∧ σ 7 i ≠ (v : Int)) ∨ ¬ (σ 8 i).toNat &&& S = 0)) : mhF σ v S (i + 1) = some (ld + σ 2 i) := by
  unfold mhF; rw [hld]; dsimp only; rw [if_pos hb, if_neg hc]
theorem thG_t {σ : Nat → Nat → Int} {v S s i : Nat} (hb : (wo S s).testBit i = true) : thG σ v S s (i + 1) = min (thG σ v S s i) (σ 19 (wo S s * 7 + i) + wyS σ i s) := by
  unfold thG; rw [mnF, if_pos hb]
theorem thG_f {σ : Nat → Nat → Int} {v S s i : Nat} (hb : ¬ (wo S s).testBit i = true) : thG σ v S s (i + 1) = thG σ v S s i := by
  unfold thG; rw [mnF, if_neg hb]
theorem fbB_t {σ : Nat → Nat → Int} {n v S i : Nat} (hb : S.testBit i = true) : fbB σ n v S (i + 1) = min (fbB σ n v S i) (rdG σ n v S i + wyS σ i 7) := by
  unfold fbB; rw [mnF, if_pos hb]
theorem fbB_f {σ : Nat → Nat → Int} {n v S i : Nat} (hb : ¬ S.testBit i = true) : fbB σ n v S (i + 1) = fbB σ n v S i := by
  unfold fbB; rw [mnF, if_neg hb]
theorem fbS_t {σ : Nat → Nat → Int} {n v S i : Nat} (hb : S.testBit i = true) : fbS σ n v S (i + 1) = zU (fbS σ n v S i) 19 (S * 7 + i) (rdG σ n v S i) := by
  rw [fbS, if_pos hb]
theorem fbS_f {σ : Nat → Nat → Int} {n v S i : Nat} (hb : ¬ S.testBit i = true) : fbS σ n v S (i + 1) = fbS σ n v S i := by
  rw [fbS, if_neg hb]
end
section
/-! Rounds: the contracts of the tables -/
set_option maxRecDepth 20000 in
set_option maxHeartbeats 4000000 in
theorem c_rd_firstBack (l : Launch) (w : zW) (σ : Nat → Nat → Int) (v S : Nat) (hv : v < 3) (hS : S < 128) : zMi l w LL CC g_rd_firstBack rm_rd_firstBack [.ref (w.1 17), .int (zI ((v : Int))), .int (zI ((S : Int)))] σ (σ 18 (v * 128 + S)) (σ) := by
  refine zMi.of g_rd_firstBack (by decide +kernel) (Nat.le_of_ble_eq_true rfl) rfl ?_
  intro p e u m args below meth c C hr
  have C : zC p u m args meth c prog_4_method_2_code 3 "RoundPlans$Rounds" w LL CC := C
  have hr : meth.sig.returnType = (some .int) := hr
  show V p l e rm_rd_firstBack u m args below meth c 3 w LL CC 0 0 (MQ below (zQi w LL CC (σ 18 (v * 128 + S)) (σ) u.heap.size) args u 0 0 (zA w LL.1 u.heap.size)) 0 [(0, .ref (w.1 17)), (1, .int (zI ((v : Int)))), (2, .int (zI ((S : Int))))] [] σ
  refine V_aload_n C d_rd_firstBack_0 0 rfl ?_
  refine V_getr C 17 1 18 (by decide) rfl rfl in_rd (by decide) rfl wd_120 d_rd_firstBack_1 ?_
  refine V_iload_n C d_rd_firstBack_4 1 rfl ?_
  refine V_sipush C d_rd_firstBack_5 (by decide) ?_
  refine V_imul C d_rd_firstBack_8 ?_
  refine V_iload_n C d_rd_firstBack_9 2 rfl ?_
  refine V_iadd C d_rd_firstBack_10 ?_
  refine V_iald C 18 (v * 128 + S) (by decide) rfl (by omega) (by omega) (by decide) d_rd_firstBack_11 ?_
  exact V_iret C hr d_rd_firstBack_12 rfl rfl

set_option maxRecDepth 20000 in
set_option maxHeartbeats 4000000 in
theorem c_rd_mayHave (l : Launch) (w : zW) (σ : Nat → Nat → Int) (n nv : Nat) (hT : tI σ n nv) (v S : Nat) (hv0 : v < 3) (hS : S < 128) : zMi l w LL CC g_rd_mayHave rm_rd_mayHave [.ref (w.1 17), .int (zI ((v : Int))), .int (zI ((S : Int)))] σ (zB (mayB σ n v S = true)) (σ) := by
  refine zMi.of g_rd_mayHave (by decide +kernel) (Nat.le_of_ble_eq_true rfl) rfl ?_
  intro p e u m args below meth c C hr
  have C : zC p u m args meth c prog_4_method_4_code 6 "RoundPlans$Rounds" w LL CC := C
  have hr : meth.sig.returnType = (some .boolean) := hr
  obtain ⟨hn, hn7, hv, hv3, h2, h3, h4, h5, h6, h7, h8, h9, h10, h11, h12, h13, h14, h15, h16⟩ := id hT
  show V p l e rm_rd_mayHave u m args below meth c 6 w LL CC 0 0 (MQ below (zQi w LL CC (zB (mayB σ n v S = true)) (σ) u.heap.size) args u 0 0 (zA w LL.1 u.heap.size)) 0 [(0, .ref (w.1 17)), (1, .int (zI ((v : Int)))), (2, .int (zI ((S : Int))))] [] σ
  refine V_iconst C d_rd_mayHave_0 ?_
  refine V_istore_n (lv' := [(3, _), (0, _), (1, _), (2, _)]) C d_rd_mayHave_1 (by decide) rfl ?_
  refine V_iconst C d_rd_mayHave_2 ?_
  refine V_istore (lv' := [(4, _), (3, _), (0, _), (1, _), (2, _)]) C d_rd_mayHave_3 (by decide) rfl ?_
  refine V_sub (lv' := [(4, _), (3, _), (0, _), (1, _), (2, _)]) [0, 1, 2, 3, 4] rfl ?_
  refine loopUp (n := n) (P := fun i => ∀ ld, mhF σ v S i = some ld → V p l e rm_rd_mayHave u m args below meth c 6 w LL CC 0 0 (MQ below (zQi w LL CC (zB (mayB σ n v S = true)) (σ) u.heap.size) args u 0 0 (zA w LL.1 u.heap.size)) 5 [(4, .int (zI (i : Int))), (3, .int (zI ld)), (0, .ref (w.1 17)), (1, .int (zI (v : Int))), (2, .int (zI (S : Int)))] [] σ) (fun i hii ihi => ?_) 0 (Nat.zero_le _) 0 rfl
  intro ld hld
  have hlb := mhF_bd h2 i (by omega) ld hld
  show V p l e rm_rd_mayHave u m args below meth c 6 w LL CC 0 0 (MQ below (zQi w LL CC (zB (mayB σ n v S = true)) (σ) u.heap.size) args u 0 0 (zA w LL.1 u.heap.size)) 5 [(4, .int (zI (i : Int))), (3, .int (zI ld)), (0, .ref (w.1 17)), (1, .int (zI (v : Int))), (2, .int (zI (S : Int)))] [] σ
  refine V_iload C d_rd_mayHave_5 0 rfl ?_
  refine V_aload_n C d_rd_mayHave_7 2 rfl ?_
  refine V_getr C 17 0 1 (by decide) rfl rfl in_rd (by decide) rfl wd_119 d_rd_mayHave_8 ?_
  refine V_geti C 1 0 (by decide) rfl rfl in_td (by decide) rfl wd_32 d_rd_mayHave_11 ?_
  refine V_ti hn ?_
  refine V_cmpge C 86 d_rd_mayHave_14 (by decide) ⟨by omega, by omega⟩ ⟨by omega, by omega⟩ (fun he => ?_) (fun he => ?_)
  · have hin : i = n := by omega
    subst hin
    refine V_iload_n C d_rd_mayHave_86 1 rfl ?_
    refine V_aload_n C d_rd_mayHave_87 2 rfl ?_
    refine V_getr C 17 0 1 (by decide) rfl rfl in_rd (by decide) rfl wd_119 d_rd_mayHave_88 ?_
    refine V_getr C 1 12 12 (by decide) rfl rfl in_td (by decide) rfl wd_66 d_rd_mayHave_91 ?_
    refine V_iload_n C d_rd_mayHave_94 3 rfl ?_
    refine V_iald C 12 _ (by decide) rfl rfl (by omega) (by decide) d_rd_mayHave_95 ?_
    have q12 := h12 v hv0
    refine V_cmpgt C 103 d_rd_mayHave_96 (by decide) ⟨by omega, by omega⟩ ⟨by omega, by omega⟩ (fun h2 => ?_) (fun h2 => ?_)
    · refine V_iconst C d_rd_mayHave_103 ?_
      exact V_zret C hr d_rd_mayHave_104 (by decide) (zB_f (by unfold mayB; rw [hld]; simp; omega)) rfl
    · refine V_iconst C d_rd_mayHave_99 ?_
      refine V_goto C 104 d_rd_mayHave_100 (by decide) ?_
      exact V_zret C hr d_rd_mayHave_104 (by decide) (zB_t (by unfold mayB; rw [hld]; simp; omega)) rfl
  · have hin : i < n := by omega
    refine V_iload_n C d_rd_mayHave_17 4 rfl ?_
    refine V_iload C d_rd_mayHave_18 0 rfl ?_
    refine V_callNi C (c_rp_holds l w σ S i hS (by omega)) ns_4 wd_285 wd_1 wd_286 o_rp_holds ⟨rfl, rfl, Nat.le_of_ble_eq_true rfl, Nat.le_of_ble_eq_true rfl⟩ rfl rfl (Nat.le_of_ble_eq_true rfl) d_rd_mayHave_20 ⟨Nat.zero_le _, Nat.zero_le _⟩ ?_
    refine V_ifeqB C 80 d_rd_mayHave_23 (by decide) (fun hb => ?_) (fun hb => ?_)
    · refine V_iinc (lv' := [(4, _), (3, _), (0, _), (1, _), (2, _)]) C d_rd_mayHave_80 0 rfl (by decide) rfl ?_
      refine V_goto C 5 d_rd_mayHave_83 (by decide) ?_
      refine V_sub (lv' := [(4, _), (3, _), (0, _), (1, _), (2, _)]) [0, 1, 2, 3, 4] rfl ?_
      first | exact ihi hin _ (mhF_f hld hb) | exact ihi hin _ (mhF_t hld hb (by intro z; rcases z with z | z; omega; exact z (by omega)))
    · refine V_aload_n C d_rd_mayHave_26 2 rfl ?_
      refine V_getr C 17 0 1 (by decide) rfl rfl in_rd (by decide) rfl wd_119 d_rd_mayHave_27 ?_
      refine V_getr C 1 7 7 (by decide) rfl rfl in_td (by decide) rfl wd_54 d_rd_mayHave_30 ?_
      refine V_iload C d_rd_mayHave_33 0 rfl ?_
      refine V_iald C 7 _ (by decide) rfl rfl (by omega) (by decide) d_rd_mayHave_35 ?_
      have q7 := h7 i (by omega)
      refine V_istore (lv' := [(5, _), (4, _), (3, _), (0, _), (1, _), (2, _)]) C d_rd_mayHave_36 (by decide) rfl ?_
      refine V_iload C d_rd_mayHave_38 0 rfl ?_
      refine V_iconst C d_rd_mayHave_40 ?_
      refine V_cmpeq C 50 d_rd_mayHave_41 (by decide) ⟨by omega, by omega⟩ ⟨by omega, by omega⟩ (fun f1 => ?_) (fun f1 => ?_)
      · refine V_aload_n C d_rd_mayHave_50 3 rfl ?_
        refine V_getr C 17 0 1 (by decide) rfl rfl in_rd (by decide) rfl wd_119 d_rd_mayHave_51 ?_
        refine V_getr C 1 8 8 (by decide) rfl rfl in_td (by decide) rfl wd_57 d_rd_mayHave_54 ?_
        refine V_iload C d_rd_mayHave_57 1 rfl ?_
        refine V_iald C 8 _ (by decide) rfl rfl (by omega) (by decide) d_rd_mayHave_59 ?_
        refine V_ti (b := (((σ 8 i).toNat : Nat) : Int)) (by have := h8 i (by omega); omega) ?_
        refine V_iload_n C d_rd_mayHave_60 5 rfl ?_
        refine V_iand C ((((σ 8 i).toNat &&& S : Nat) : Int)) d_rd_mayHave_61 (zI_and _ _) ?_
        have ha8 : (σ 8 i).toNat &&& S ≤ S := Nat.and_le_right
        refine V_ifeq C 67 d_rd_mayHave_62 (by decide) ⟨by omega, by omega⟩ (fun f3 => ?_) (fun f3 => ?_)
        · refine V_iload_n C d_rd_mayHave_67 2 rfl ?_
          refine V_aload_n C d_rd_mayHave_68 3 rfl ?_
          refine V_getr C 17 0 1 (by decide) rfl rfl in_rd (by decide) rfl wd_119 d_rd_mayHave_69 ?_
          refine V_getr C 1 2 2 (by decide) rfl rfl in_td (by decide) rfl wd_40 d_rd_mayHave_72 ?_
          refine V_iload C d_rd_mayHave_75 1 rfl ?_
          refine V_iald C 2 _ (by decide) rfl rfl (by omega) (by decide) d_rd_mayHave_77 ?_
          have q2 := h2 i (by omega)
          refine V_iadd C d_rd_mayHave_78 ?_
          refine V_istore_n (lv' := [(3, _), (5, _), (4, _), (0, _), (1, _), (2, _)]) C d_rd_mayHave_79 (by decide) rfl ?_
          refine V_iinc (lv' := [(4, _), (3, _), (5, _), (0, _), (1, _), (2, _)]) C d_rd_mayHave_80 2 rfl (by decide) rfl ?_
          refine V_goto C 5 d_rd_mayHave_83 (by decide) ?_
          refine V_sub (lv' := [(4, _), (3, _), (0, _), (1, _), (2, _)]) [0, 1, 3, 4, 5] rfl ?_
          first | exact ihi hin _ (mhF_f hld hb) | exact ihi hin _ (mhF_t hld hb (by intro z; rcases z with z | z; omega; exact z (by omega)))
        · refine V_iconst C d_rd_mayHave_65 ?_
          exact V_zret C hr d_rd_mayHave_66 (by decide) (zB_f (mayB_no hin hld hb (by first | exact Or.inl ⟨f1, f2⟩ | exact Or.inr (fun z => f3 (by omega))))) rfl
      · refine V_iload C d_rd_mayHave_44 0 rfl ?_
        refine V_iload_n C d_rd_mayHave_46 4 rfl ?_
        refine V_cmpne C 65 d_rd_mayHave_47 (by decide) ⟨by omega, by omega⟩ ⟨by omega, by omega⟩ (fun f2 => ?_) (fun f2 => ?_)
        · refine V_iconst C d_rd_mayHave_65 ?_
          exact V_zret C hr d_rd_mayHave_66 (by decide) (zB_f (mayB_no hin hld hb (by first | exact Or.inl ⟨f1, f2⟩ | exact Or.inr (fun z => f3 (by omega))))) rfl
        · refine V_aload_n C d_rd_mayHave_50 3 rfl ?_
          refine V_getr C 17 0 1 (by decide) rfl rfl in_rd (by decide) rfl wd_119 d_rd_mayHave_51 ?_
          refine V_getr C 1 8 8 (by decide) rfl rfl in_td (by decide) rfl wd_57 d_rd_mayHave_54 ?_
          refine V_iload C d_rd_mayHave_57 1 rfl ?_
          refine V_iald C 8 _ (by decide) rfl rfl (by omega) (by decide) d_rd_mayHave_59 ?_
          refine V_ti (b := (((σ 8 i).toNat : Nat) : Int)) (by have := h8 i (by omega); omega) ?_
          refine V_iload_n C d_rd_mayHave_60 5 rfl ?_
          refine V_iand C ((((σ 8 i).toNat &&& S : Nat) : Int)) d_rd_mayHave_61 (zI_and _ _) ?_
          have ha8 : (σ 8 i).toNat &&& S ≤ S := Nat.and_le_right
          refine V_ifeq C 67 d_rd_mayHave_62 (by decide) ⟨by omega, by omega⟩ (fun f3 => ?_) (fun f3 => ?_)
          · refine V_iload_n C d_rd_mayHave_67 2 rfl ?_
            refine V_aload_n C d_rd_mayHave_68 3 rfl ?_
            refine V_getr C 17 0 1 (by decide) rfl rfl in_rd (by decide) rfl wd_119 d_rd_mayHave_69 ?_
            refine V_getr C 1 2 2 (by decide) rfl rfl in_td (by decide) rfl wd_40 d_rd_mayHave_72 ?_
            refine V_iload C d_rd_mayHave_75 1 rfl ?_
            refine V_iald C 2 _ (by decide) rfl rfl (by omega) (by decide) d_rd_mayHave_77 ?_
            have q2 := h2 i (by omega)
            refine V_iadd C d_rd_mayHave_78 ?_
            refine V_istore_n (lv' := [(3, _), (5, _), (4, _), (0, _), (1, _), (2, _)]) C d_rd_mayHave_79 (by decide) rfl ?_
            refine V_iinc (lv' := [(4, _), (3, _), (5, _), (0, _), (1, _), (2, _)]) C d_rd_mayHave_80 2 rfl (by decide) rfl ?_
            refine V_goto C 5 d_rd_mayHave_83 (by decide) ?_
            refine V_sub (lv' := [(4, _), (3, _), (0, _), (1, _), (2, _)]) [0, 1, 3, 4, 5] rfl ?_
            first | exact ihi hin _ (mhF_f hld hb) | exact ihi hin _ (mhF_t hld hb (by intro z; rcases z with z | z; omega; exact z (by omega)))
          · refine V_iconst C d_rd_mayHave_65 ?_
            exact V_zret C hr d_rd_mayHave_66 (by decide) (zB_f (mayB_no hin hld hb (by first | exact Or.inl ⟨f1, f2⟩ | exact Or.inr (fun z => f3 (by omega))))) rfl

set_option maxRecDepth 20000 in
set_option maxHeartbeats 4000000 in
theorem c_rd_findReady (l : Launch) (w : zW) (σ : Nat → Nat → Int) (n nv : Nat) (hT : tI σ n nv) (hR : bd σ 19 896 0 1073741824) (v S : Nat) (hv0 : v < 3) (hS : S < 128) (s : Nat) (hs : s < n) : zMi l w LL CC g_rd_findReady rm_rd_findReady [.ref (w.1 17), .int (zI ((v : Int))), .int (zI ((S : Int))), .int (zI ((s : Int)))] σ (rdG σ n v S s) (σ) := by
  refine zMi.of g_rd_findReady (by decide +kernel) (Nat.le_of_ble_eq_true rfl) rfl ?_
  intro p e u m args below meth c C hr
  have C : zC p u m args meth c prog_4_method_6_code 8 "RoundPlans$Rounds" w LL CC := C
  have hr : meth.sig.returnType = (some .int) := hr
  obtain ⟨hn, hn7, hv, hv3, h2, h3, h4, h5, h6, h7, h8, h9, h10, h11, h12, h13, h14, h15, h16⟩ := id hT
  have hw := wo_128 hS (show s < 7 by omega)
  show V p l e rm_rd_findReady u m args below meth c 8 w LL CC 0 0 (MQ below (zQi w LL CC (rdG σ n v S s) (σ) u.heap.size) args u 0 0 (zA w LL.1 u.heap.size)) 0 [(0, .ref (w.1 17)), (1, .int (zI ((v : Int)))), (2, .int (zI ((S : Int)))), (3, .int (zI ((s : Int))))] [] σ
  refine V_iload_n C d_rd_findReady_0 2 rfl ?_
  refine V_iload_n C d_rd_findReady_1 3 rfl ?_
  refine V_callNi C (c_rp_without l w σ S s hS (by omega)) ns_5 wd_278 wd_1 wd_279 o_rp_without ⟨rfl, rfl, Nat.le_of_ble_eq_true rfl, Nat.le_of_ble_eq_true rfl⟩ rfl rfl (Nat.le_of_ble_eq_true rfl) d_rd_findReady_2 ⟨Nat.zero_le _, Nat.zero_le _⟩ ?_
  refine V_istore (lv' := [(4, _), (0, _), (1, _), (2, _), (3, _)]) C d_rd_findReady_5 (by decide) rfl ?_
  refine V_aload_n C d_rd_findReady_7 1 rfl ?_
  refine V_getr C 17 0 1 (by decide) rfl rfl in_rd (by decide) rfl wd_119 d_rd_findReady_8 ?_
  refine V_getr C 1 10 10 (by decide) rfl rfl in_td (by decide) rfl wd_61 d_rd_findReady_11 ?_
  refine V_iload_n C d_rd_findReady_14 4 rfl ?_
  refine V_iald C 10 _ (by decide) rfl rfl (by omega) (by decide) d_rd_findReady_15 ?_
  refine V_ti (b := (((σ 10 s).toNat : Nat) : Int)) (by have := h10 s (by omega); omega) ?_
  refine V_iload C d_rd_findReady_16 0 rfl ?_
  refine V_iand C ((((σ 10 s).toNat &&& wo S s : Nat) : Int)) d_rd_findReady_18 (zI_and _ _) ?_
  have ha8 : (σ 10 s).toNat &&& wo S s ≤ wo S s := Nat.and_le_right
  refine V_ifeq C 25 d_rd_findReady_19 (by decide) ⟨by omega, by omega⟩ (fun f1 => ?_) (fun f1 => ?_)
  · refine V_iload C d_rd_findReady_25 0 rfl ?_
    refine V_ifne C 53 d_rd_findReady_27 (by decide) ⟨by omega, by omega⟩ (fun f0 => ?_) (fun f0 => ?_)
    · refine V_ldc C (1073741824) d_rd_findReady_53 wd_309 ?_
      refine V_ti (b := if wo S s = 0 then σ 13 v + wyS σ 7 s else NV) (by first | (rw [if_pos (by omega)]; rfl) | (rw [if_neg (by omega)]; rfl)) ?_
      refine V_istore (lv' := [(5, _), (4, _), (0, _), (1, _), (2, _), (3, _)]) C d_rd_findReady_55 (by decide) rfl ?_
      refine V_iconst C d_rd_findReady_57 ?_
      refine V_istore (lv' := [(6, _), (5, _), (4, _), (0, _), (1, _), (2, _), (3, _)]) C d_rd_findReady_58 (by decide) rfl ?_
      refine V_sub (lv' := [(6, _), (5, _), (4, _), (0, _), (1, _), (2, _), (3, _)]) [0, 1, 2, 3, 4, 5, 6] rfl ?_
      refine loopUp (n := n) (P := fun i => V p l e rm_rd_findReady u m args below meth c 8 w LL CC 0 0 (MQ below (zQi w LL CC (rdG σ n v S s) (σ) u.heap.size) args u 0 0 (zA w LL.1 u.heap.size)) 60 [(6, .int (zI ((i : Int)))), (5, .int (zI (thG σ v S s i))), (4, .int (zI (((wo S s : Nat) : Int)))), (0, .ref (w.1 17)), (1, .int (zI ((v : Int)))), (2, .int (zI ((S : Int)))), (3, .int (zI ((s : Int))))] [] (σ)) (fun i hii ihi => ?_) 0 (Nat.zero_le _)
      show V p l e rm_rd_findReady u m args below meth c 8 w LL CC 0 0 (MQ below (zQi w LL CC (rdG σ n v S s) (σ) u.heap.size) args u 0 0 (zA w LL.1 u.heap.size)) 60 [(6, .int (zI ((i : Int)))), (5, .int (zI (thG σ v S s i))), (4, .int (zI (((wo S s : Nat) : Int)))), (0, .ref (w.1 17)), (1, .int (zI ((v : Int)))), (2, .int (zI ((S : Int)))), (3, .int (zI ((s : Int))))] [] (σ)
      refine V_iload C d_rd_findReady_60 0 rfl ?_
      refine V_aload_n C d_rd_findReady_62 3 rfl ?_
      refine V_getr C 17 0 1 (by decide) rfl rfl in_rd (by decide) rfl wd_119 d_rd_findReady_63 ?_
      refine V_geti C 1 0 (by decide) rfl rfl in_td (by decide) rfl wd_32 d_rd_findReady_66 ?_
      refine V_ti hn ?_
      refine V_cmpge C 123 d_rd_findReady_69 (by decide) ⟨by omega, by omega⟩ ⟨by omega, by omega⟩ (fun he => ?_) (fun he => ?_)
      · have hin : i = n := by omega
        subst hin
        refine V_iload C d_rd_findReady_123 1 rfl ?_
        refine V_aload_n C d_rd_findReady_125 3 rfl ?_
        refine V_getr C 17 0 1 (by decide) rfl rfl in_rd (by decide) rfl wd_119 d_rd_findReady_126 ?_
        refine V_getr C 1 4 4 (by decide) rfl rfl in_td (by decide) rfl wd_46 d_rd_findReady_129 ?_
        refine V_iload_n C d_rd_findReady_132 6 rfl ?_
        refine V_iald C 4 _ (by decide) rfl rfl (by omega) (by decide) d_rd_findReady_133 ?_
        have q0 := thG_bd hT hR hv0 hS (show s < 7 by omega) i (by omega)
        have q4 := h4 s (by omega)
        have q3 := h3 s (by omega)
        refine V_cmple C 140 d_rd_findReady_134 (by decide) ⟨by omega, by omega⟩ ⟨by omega, by omega⟩ (fun f2 => ?_) (fun f2 => ?_)
        · refine V_iload C d_rd_findReady_140 1 rfl ?_
          refine V_aload_n C d_rd_findReady_142 3 rfl ?_
          refine V_getr C 17 0 1 (by decide) rfl rfl in_rd (by decide) rfl wd_119 d_rd_findReady_143 ?_
          refine V_getr C 1 3 3 (by decide) rfl rfl in_td (by decide) rfl wd_43 d_rd_findReady_146 ?_
          refine V_iload_n C d_rd_findReady_149 6 rfl ?_
          refine V_iald C 3 _ (by decide) rfl rfl (by omega) (by decide) d_rd_findReady_150 ?_
          refine V_imax C wd_322 wd_323 wd_8 wd_324 (Nat.le_of_ble_eq_true rfl) (Nat.le_of_ble_eq_true rfl) (Nat.zero_le _) (Nat.zero_le _) ⟨by omega, by omega⟩ ⟨by omega, by omega⟩ d_rd_findReady_151 ?_
          refine V_aload_n C d_rd_findReady_154 3 rfl ?_
          refine V_getr C 17 0 1 (by decide) rfl rfl in_rd (by decide) rfl wd_119 d_rd_findReady_155 ?_
          refine V_getr C 1 5 5 (by decide) rfl rfl in_td (by decide) rfl wd_49 d_rd_findReady_158 ?_
          refine V_iload_n C d_rd_findReady_161 6 rfl ?_
          refine V_iald C 5 _ (by decide) rfl rfl (by omega) (by decide) d_rd_findReady_162 ?_
          refine V_iadd C d_rd_findReady_163 ?_
          exact V_iret C hr d_rd_findReady_164 (by unfold rdG; rw [if_neg (by omega), if_neg (by omega)]) rfl
        · refine V_ldc C (1073741824) d_rd_findReady_137 wd_309 ?_
          exact V_iret C hr d_rd_findReady_139 (by unfold rdG; rw [if_neg (by omega), if_pos (by omega)]; rfl) rfl
      · have hin : i < n := by omega
        refine V_iload C d_rd_findReady_72 2 rfl ?_
        refine V_iload C d_rd_findReady_74 0 rfl ?_
        refine V_callNi C (c_rp_holds l w σ (wo S s) i hw (by omega)) ns_4 wd_285 wd_1 wd_286 o_rp_holds ⟨rfl, rfl, Nat.le_of_ble_eq_true rfl, Nat.le_of_ble_eq_true rfl⟩ rfl rfl (Nat.le_of_ble_eq_true rfl) d_rd_findReady_76 ⟨Nat.zero_le _, Nat.zero_le _⟩ ?_
        refine V_ifeqB C 117 d_rd_findReady_79 (by decide) (fun hb => ?_) (fun hb => ?_)
        · refine V_iinc (lv' := [(6, _), (5, _), (4, _), (0, _), (1, _), (2, _), (3, _)]) C d_rd_findReady_117 0 rfl (by decide) rfl ?_
          refine V_goto C 60 d_rd_findReady_120 (by decide) ?_
          refine V_sub (lv' := [(6, _), (5, _), (4, _), (0, _), (1, _), (2, _), (3, _)]) [0, 1, 2, 3, 4, 5, 6] rfl ?_
          have h99 := ihi hin
          first | (rw [thG_f hb] at h99; exact h99) | (rw [thG_t hb] at h99; exact h99)
        · refine V_aload_n C d_rd_findReady_82 3 rfl ?_
          refine V_getr C 17 2 19 (by decide) rfl rfl in_rd (by decide) rfl wd_121 d_rd_findReady_83 ?_
          refine V_iload C d_rd_findReady_86 2 rfl ?_
          refine V_bipush C d_rd_findReady_88 (by decide) ?_
          refine V_imul C d_rd_findReady_90 ?_
          refine V_iload C d_rd_findReady_91 0 rfl ?_
          refine V_iadd C d_rd_findReady_93 ?_
          refine V_iald C 19 (wo S s * 7 + i) (by decide) rfl (by omega) (by omega) (by decide) d_rd_findReady_94 ?_
          refine V_aload_n C d_rd_findReady_95 3 rfl ?_
          refine V_getr C 17 0 1 (by decide) rfl rfl in_rd (by decide) rfl wd_119 d_rd_findReady_96 ?_
          refine V_iload C d_rd_findReady_99 0 rfl ?_
          refine V_iload_n C d_rd_findReady_101 6 rfl ?_
          refine V_callVi C 1 (by decide) rfl rfl (c_td_seconds l w σ i s (by omega) (by omega)) wd_315 wd_316 wd_317 wd_2 wd_318 o_td_seconds ⟨rfl, rfl, Nat.le_of_ble_eq_true rfl, Nat.le_of_ble_eq_true rfl⟩ rfl rfl (Nat.le_of_ble_eq_true rfl) d_rd_findReady_102 ⟨Nat.zero_le _, Nat.zero_le _⟩ ?_
          refine V_iadd C d_rd_findReady_105 ?_
          refine V_istore (lv' := [(7, _), (6, _), (5, _), (4, _), (0, _), (1, _), (2, _), (3, _)]) C d_rd_findReady_106 (by decide) rfl ?_
          refine V_iload C d_rd_findReady_108 2 rfl ?_
          refine V_iload C d_rd_findReady_110 0 rfl ?_
          have q0 := thG_bd hT hR hv0 hS (show s < 7 by omega) i (by omega)
          have q1 := hR (wo S s * 7 + i) (by omega)
          have q2 := h16 (i * 8 + s) (by omega)
          refine V_imin C wd_319 wd_320 wd_8 wd_321 (Nat.le_of_ble_eq_true rfl) (Nat.le_of_ble_eq_true rfl) (Nat.zero_le _) (Nat.zero_le _) ⟨by omega, by omega⟩ ⟨by omega, by omega⟩ d_rd_findReady_112 ?_
          refine V_istore (lv' := [(5, _), (7, _), (6, _), (4, _), (0, _), (1, _), (2, _), (3, _)]) C d_rd_findReady_115 (by decide) rfl ?_
          refine V_iinc (lv' := [(6, _), (5, _), (7, _), (4, _), (0, _), (1, _), (2, _), (3, _)]) C d_rd_findReady_117 2 rfl (by decide) rfl ?_
          refine V_goto C 60 d_rd_findReady_120 (by decide) ?_
          refine V_sub (lv' := [(6, _), (5, _), (4, _), (0, _), (1, _), (2, _), (3, _)]) [0, 1, 3, 4, 5, 6, 7] rfl ?_
          have h99 := ihi hin
          first | (rw [thG_f hb] at h99; exact h99) | (rw [thG_t hb] at h99; exact h99)
    · refine V_aload_n C d_rd_findReady_30 1 rfl ?_
      refine V_getr C 17 0 1 (by decide) rfl rfl in_rd (by decide) rfl wd_119 d_rd_findReady_31 ?_
      refine V_getr C 1 13 13 (by decide) rfl rfl in_td (by decide) rfl wd_69 d_rd_findReady_34 ?_
      refine V_iload_n C d_rd_findReady_37 2 rfl ?_
      refine V_iald C 13 _ (by decide) rfl rfl (by omega) (by decide) d_rd_findReady_38 ?_
      refine V_aload_n C d_rd_findReady_39 1 rfl ?_
      refine V_getr C 17 0 1 (by decide) rfl rfl in_rd (by decide) rfl wd_119 d_rd_findReady_40 ?_
      refine V_bipush C d_rd_findReady_43 (by decide) ?_
      refine V_iload_n C d_rd_findReady_45 4 rfl ?_
      refine V_callVi C 1 (by decide) rfl rfl (c_td_seconds l w σ 7 s (by omega) (by omega)) wd_315 wd_316 wd_317 wd_2 wd_318 o_td_seconds ⟨rfl, rfl, Nat.le_of_ble_eq_true rfl, Nat.le_of_ble_eq_true rfl⟩ rfl rfl (Nat.le_of_ble_eq_true rfl) d_rd_findReady_46 ⟨Nat.zero_le _, Nat.zero_le _⟩ ?_
      refine V_iadd C d_rd_findReady_49 ?_
      refine V_goto C 55 d_rd_findReady_50 (by decide) ?_
      refine V_ti (b := if wo S s = 0 then σ 13 v + wyS σ 7 s else NV) (by first | (rw [if_pos (by omega)]; rfl) | (rw [if_neg (by omega)]; rfl)) ?_
      refine V_istore (lv' := [(5, _), (4, _), (0, _), (1, _), (2, _), (3, _)]) C d_rd_findReady_55 (by decide) rfl ?_
      refine V_iconst C d_rd_findReady_57 ?_
      refine V_istore (lv' := [(6, _), (5, _), (4, _), (0, _), (1, _), (2, _), (3, _)]) C d_rd_findReady_58 (by decide) rfl ?_
      refine V_sub (lv' := [(6, _), (5, _), (4, _), (0, _), (1, _), (2, _), (3, _)]) [0, 1, 2, 3, 4, 5, 6] rfl ?_
      refine loopUp (n := n) (P := fun i => V p l e rm_rd_findReady u m args below meth c 8 w LL CC 0 0 (MQ below (zQi w LL CC (rdG σ n v S s) (σ) u.heap.size) args u 0 0 (zA w LL.1 u.heap.size)) 60 [(6, .int (zI ((i : Int)))), (5, .int (zI (thG σ v S s i))), (4, .int (zI (((wo S s : Nat) : Int)))), (0, .ref (w.1 17)), (1, .int (zI ((v : Int)))), (2, .int (zI ((S : Int)))), (3, .int (zI ((s : Int))))] [] (σ)) (fun i hii ihi => ?_) 0 (Nat.zero_le _)
      show V p l e rm_rd_findReady u m args below meth c 8 w LL CC 0 0 (MQ below (zQi w LL CC (rdG σ n v S s) (σ) u.heap.size) args u 0 0 (zA w LL.1 u.heap.size)) 60 [(6, .int (zI ((i : Int)))), (5, .int (zI (thG σ v S s i))), (4, .int (zI (((wo S s : Nat) : Int)))), (0, .ref (w.1 17)), (1, .int (zI ((v : Int)))), (2, .int (zI ((S : Int)))), (3, .int (zI ((s : Int))))] [] (σ)
      refine V_iload C d_rd_findReady_60 0 rfl ?_
      refine V_aload_n C d_rd_findReady_62 3 rfl ?_
      refine V_getr C 17 0 1 (by decide) rfl rfl in_rd (by decide) rfl wd_119 d_rd_findReady_63 ?_
      refine V_geti C 1 0 (by decide) rfl rfl in_td (by decide) rfl wd_32 d_rd_findReady_66 ?_
      refine V_ti hn ?_
      refine V_cmpge C 123 d_rd_findReady_69 (by decide) ⟨by omega, by omega⟩ ⟨by omega, by omega⟩ (fun he => ?_) (fun he => ?_)
      · have hin : i = n := by omega
        subst hin
        refine V_iload C d_rd_findReady_123 1 rfl ?_
        refine V_aload_n C d_rd_findReady_125 3 rfl ?_
        refine V_getr C 17 0 1 (by decide) rfl rfl in_rd (by decide) rfl wd_119 d_rd_findReady_126 ?_
        refine V_getr C 1 4 4 (by decide) rfl rfl in_td (by decide) rfl wd_46 d_rd_findReady_129 ?_
        refine V_iload_n C d_rd_findReady_132 6 rfl ?_
        refine V_iald C 4 _ (by decide) rfl rfl (by omega) (by decide) d_rd_findReady_133 ?_
        have q0 := thG_bd hT hR hv0 hS (show s < 7 by omega) i (by omega)
        have q4 := h4 s (by omega)
        have q3 := h3 s (by omega)
        refine V_cmple C 140 d_rd_findReady_134 (by decide) ⟨by omega, by omega⟩ ⟨by omega, by omega⟩ (fun f2 => ?_) (fun f2 => ?_)
        · refine V_iload C d_rd_findReady_140 1 rfl ?_
          refine V_aload_n C d_rd_findReady_142 3 rfl ?_
          refine V_getr C 17 0 1 (by decide) rfl rfl in_rd (by decide) rfl wd_119 d_rd_findReady_143 ?_
          refine V_getr C 1 3 3 (by decide) rfl rfl in_td (by decide) rfl wd_43 d_rd_findReady_146 ?_
          refine V_iload_n C d_rd_findReady_149 6 rfl ?_
          refine V_iald C 3 _ (by decide) rfl rfl (by omega) (by decide) d_rd_findReady_150 ?_
          refine V_imax C wd_322 wd_323 wd_8 wd_324 (Nat.le_of_ble_eq_true rfl) (Nat.le_of_ble_eq_true rfl) (Nat.zero_le _) (Nat.zero_le _) ⟨by omega, by omega⟩ ⟨by omega, by omega⟩ d_rd_findReady_151 ?_
          refine V_aload_n C d_rd_findReady_154 3 rfl ?_
          refine V_getr C 17 0 1 (by decide) rfl rfl in_rd (by decide) rfl wd_119 d_rd_findReady_155 ?_
          refine V_getr C 1 5 5 (by decide) rfl rfl in_td (by decide) rfl wd_49 d_rd_findReady_158 ?_
          refine V_iload_n C d_rd_findReady_161 6 rfl ?_
          refine V_iald C 5 _ (by decide) rfl rfl (by omega) (by decide) d_rd_findReady_162 ?_
          refine V_iadd C d_rd_findReady_163 ?_
          exact V_iret C hr d_rd_findReady_164 (by unfold rdG; rw [if_neg (by omega), if_neg (by omega)]) rfl
        · refine V_ldc C (1073741824) d_rd_findReady_137 wd_309 ?_
          exact V_iret C hr d_rd_findReady_139 (by unfold rdG; rw [if_neg (by omega), if_pos (by omega)]; rfl) rfl
      · have hin : i < n := by omega
        refine V_iload C d_rd_findReady_72 2 rfl ?_
        refine V_iload C d_rd_findReady_74 0 rfl ?_
        refine V_callNi C (c_rp_holds l w σ (wo S s) i hw (by omega)) ns_4 wd_285 wd_1 wd_286 o_rp_holds ⟨rfl, rfl, Nat.le_of_ble_eq_true rfl, Nat.le_of_ble_eq_true rfl⟩ rfl rfl (Nat.le_of_ble_eq_true rfl) d_rd_findReady_76 ⟨Nat.zero_le _, Nat.zero_le _⟩ ?_
        refine V_ifeqB C 117 d_rd_findReady_79 (by decide) (fun hb => ?_) (fun hb => ?_)
        · refine V_iinc (lv' := [(6, _), (5, _), (4, _), (0, _), (1, _), (2, _), (3, _)]) C d_rd_findReady_117 0 rfl (by decide) rfl ?_
          refine V_goto C 60 d_rd_findReady_120 (by decide) ?_
          refine V_sub (lv' := [(6, _), (5, _), (4, _), (0, _), (1, _), (2, _), (3, _)]) [0, 1, 2, 3, 4, 5, 6] rfl ?_
          have h99 := ihi hin
          first | (rw [thG_f hb] at h99; exact h99) | (rw [thG_t hb] at h99; exact h99)
        · refine V_aload_n C d_rd_findReady_82 3 rfl ?_
          refine V_getr C 17 2 19 (by decide) rfl rfl in_rd (by decide) rfl wd_121 d_rd_findReady_83 ?_
          refine V_iload C d_rd_findReady_86 2 rfl ?_
          refine V_bipush C d_rd_findReady_88 (by decide) ?_
          refine V_imul C d_rd_findReady_90 ?_
          refine V_iload C d_rd_findReady_91 0 rfl ?_
          refine V_iadd C d_rd_findReady_93 ?_
          refine V_iald C 19 (wo S s * 7 + i) (by decide) rfl (by omega) (by omega) (by decide) d_rd_findReady_94 ?_
          refine V_aload_n C d_rd_findReady_95 3 rfl ?_
          refine V_getr C 17 0 1 (by decide) rfl rfl in_rd (by decide) rfl wd_119 d_rd_findReady_96 ?_
          refine V_iload C d_rd_findReady_99 0 rfl ?_
          refine V_iload_n C d_rd_findReady_101 6 rfl ?_
          refine V_callVi C 1 (by decide) rfl rfl (c_td_seconds l w σ i s (by omega) (by omega)) wd_315 wd_316 wd_317 wd_2 wd_318 o_td_seconds ⟨rfl, rfl, Nat.le_of_ble_eq_true rfl, Nat.le_of_ble_eq_true rfl⟩ rfl rfl (Nat.le_of_ble_eq_true rfl) d_rd_findReady_102 ⟨Nat.zero_le _, Nat.zero_le _⟩ ?_
          refine V_iadd C d_rd_findReady_105 ?_
          refine V_istore (lv' := [(7, _), (6, _), (5, _), (4, _), (0, _), (1, _), (2, _), (3, _)]) C d_rd_findReady_106 (by decide) rfl ?_
          refine V_iload C d_rd_findReady_108 2 rfl ?_
          refine V_iload C d_rd_findReady_110 0 rfl ?_
          have q0 := thG_bd hT hR hv0 hS (show s < 7 by omega) i (by omega)
          have q1 := hR (wo S s * 7 + i) (by omega)
          have q2 := h16 (i * 8 + s) (by omega)
          refine V_imin C wd_319 wd_320 wd_8 wd_321 (Nat.le_of_ble_eq_true rfl) (Nat.le_of_ble_eq_true rfl) (Nat.zero_le _) (Nat.zero_le _) ⟨by omega, by omega⟩ ⟨by omega, by omega⟩ d_rd_findReady_112 ?_
          refine V_istore (lv' := [(5, _), (7, _), (6, _), (4, _), (0, _), (1, _), (2, _), (3, _)]) C d_rd_findReady_115 (by decide) rfl ?_
          refine V_iinc (lv' := [(6, _), (5, _), (7, _), (4, _), (0, _), (1, _), (2, _), (3, _)]) C d_rd_findReady_117 2 rfl (by decide) rfl ?_
          refine V_goto C 60 d_rd_findReady_120 (by decide) ?_
          refine V_sub (lv' := [(6, _), (5, _), (4, _), (0, _), (1, _), (2, _), (3, _)]) [0, 1, 3, 4, 5, 6, 7] rfl ?_
          have h99 := ihi hin
          first | (rw [thG_f hb] at h99; exact h99) | (rw [thG_t hb] at h99; exact h99)
  · refine V_ldc C (1073741824) d_rd_findReady_22 wd_309 ?_
    exact V_iret C hr d_rd_findReady_24 (by unfold rdG; rw [if_pos (by omega)]; rfl) rfl

set_option maxRecDepth 20000 in
set_option maxHeartbeats 4000000 in
theorem c_rd_findBack (l : Launch) (w : zW) (σ : Nat → Nat → Int) (n nv : Nat) (hT : tI σ n nv) (hR : bd σ 19 896 0 1073741824) (v S : Nat) (hv0 : v < 3) (hS : S < 128) : zMi l w LL CC g_rd_findBack rm_rd_findBack [.ref (w.1 17), .int (zI ((v : Int))), .int (zI ((S : Int)))] σ (fbR σ n v S) (fbS σ n v S n) := by
  refine zMi.of g_rd_findBack (by decide +kernel) (Nat.le_of_ble_eq_true rfl) rfl ?_
  intro p e u m args below meth c C hr
  have C : zC p u m args meth c prog_4_method_5_code 6 "RoundPlans$Rounds" w LL CC := C
  have hr : meth.sig.returnType = (some .int) := hr
  obtain ⟨hn, hn7, hv, hv3, h2, h3, h4, h5, h6, h7, h8, h9, h10, h11, h12, h13, h14, h15, h16⟩ := id hT
  show V p l e rm_rd_findBack u m args below meth c 6 w LL CC 0 0 (MQ below (zQi w LL CC (fbR σ n v S) (fbS σ n v S n) u.heap.size) args u 0 0 (zA w LL.1 u.heap.size)) 0 [(0, .ref (w.1 17)), (1, .int (zI ((v : Int)))), (2, .int (zI ((S : Int))))] [] σ
  refine V_ldc C (1073741824) d_rd_findBack_0 wd_309 ?_
  refine V_istore_n (lv' := [(3, _), (0, _), (1, _), (2, _)]) C d_rd_findBack_2 (by decide) rfl ?_
  refine V_iconst C d_rd_findBack_3 ?_
  refine V_istore (lv' := [(4, _), (3, _), (0, _), (1, _), (2, _)]) C d_rd_findBack_4 (by decide) rfl ?_
  refine V_sub (lv' := [(4, _), (3, _), (0, _), (1, _), (2, _)]) [0, 1, 2, 3, 4] rfl ?_
  refine loopUp (n := n) (P := fun i => V p l e rm_rd_findBack u m args below meth c 6 w LL CC 0 0 (MQ below (zQi w LL CC (fbR σ n v S) (fbS σ n v S n) u.heap.size) args u 0 0 (zA w LL.1 u.heap.size)) 6 [(4, .int (zI ((i : Int)))), (3, .int (zI (fbB σ n v S i))), (0, .ref (w.1 17)), (1, .int (zI ((v : Int)))), (2, .int (zI ((S : Int))))] [] (fbS σ n v S i)) (fun i hii ihi => ?_) 0 (Nat.zero_le _)
  show V p l e rm_rd_findBack u m args below meth c 6 w LL CC 0 0 (MQ below (zQi w LL CC (fbR σ n v S) (fbS σ n v S n) u.heap.size) args u 0 0 (zA w LL.1 u.heap.size)) 6 [(4, .int (zI ((i : Int)))), (3, .int (zI (fbB σ n v S i))), (0, .ref (w.1 17)), (1, .int (zI ((v : Int)))), (2, .int (zI ((S : Int))))] [] (fbS σ n v S i)
  refine V_iload C d_rd_findBack_6 0 rfl ?_
  refine V_aload_n C d_rd_findBack_8 2 rfl ?_
  refine V_getr C 17 0 1 (by decide) rfl rfl in_rd (by decide) rfl wd_119 d_rd_findBack_9 ?_
  refine V_geti C 1 0 (by decide) rfl rfl in_td (by decide) rfl wd_32 d_rd_findBack_12 ?_
  refine V_ti (b := (n : Int)) (by rw [fbS_ne (by decide)]; exact hn) ?_
  refine V_cmpge C 76 d_rd_findBack_15 (by decide) ⟨by omega, by omega⟩ ⟨by omega, by omega⟩ (fun he => ?_) (fun he => ?_)
  · have hin : i = n := by omega
    subst hin
    have q0 := fbB_bd hT hR hv0 hS i (by omega)
    have q14 := h14 v hv0
    refine V_iload_n C d_rd_findBack_76 1 rfl ?_
    refine V_aload_n C d_rd_findBack_77 2 rfl ?_
    refine V_getr C 17 0 1 (by decide) rfl rfl in_rd (by decide) rfl wd_119 d_rd_findBack_78 ?_
    refine V_getr C 1 14 14 (by decide) rfl rfl in_td (by decide) rfl wd_71 d_rd_findBack_81 ?_
    refine V_iload_n C d_rd_findBack_84 3 rfl ?_
    refine V_iald C 14 _ (by decide) rfl rfl (by omega) (by decide) d_rd_findBack_85 ?_
    refine V_ti (b := σ 14 v) (by rw [fbS_ne (by decide)]) ?_
    refine V_cmpgt C 93 d_rd_findBack_86 (by decide) ⟨by omega, by omega⟩ ⟨by omega, by omega⟩ (fun f2 => ?_) (fun f2 => ?_)
    · refine V_ldc C (1073741824) d_rd_findBack_93 wd_309 ?_
      exact V_iret C hr d_rd_findBack_95 (by unfold fbR; rw [if_neg (by omega)]; rfl) rfl
    · refine V_iload_n C d_rd_findBack_89 1 rfl ?_
      refine V_goto C 95 d_rd_findBack_90 (by decide) ?_
      exact V_iret C hr d_rd_findBack_95 (by unfold fbR; rw [if_pos (by omega)]) rfl
  · have hin : i < n := by omega
    have hTi : tI (fbS σ n v S i) n nv := hT.congr (fun k hk => fbS_ne (by omega) i)
    refine V_iload_n C d_rd_findBack_18 4 rfl ?_
    refine V_iload C d_rd_findBack_19 0 rfl ?_
    refine V_callNi C (c_rp_holds l w _ S i hS (by omega)) ns_4 wd_285 wd_1 wd_286 o_rp_holds ⟨rfl, rfl, Nat.le_of_ble_eq_true rfl, Nat.le_of_ble_eq_true rfl⟩ rfl rfl (Nat.le_of_ble_eq_true rfl) d_rd_findBack_21 ⟨Nat.zero_le _, Nat.zero_le _⟩ ?_
    refine V_ifeqB C 70 d_rd_findBack_24 (by decide) (fun hb => ?_) (fun hb => ?_)
    · refine V_iinc (lv' := [(4, _), (3, _), (0, _), (1, _), (2, _)]) C d_rd_findBack_70 0 rfl (by decide) rfl ?_
      refine V_goto C 6 d_rd_findBack_73 (by decide) ?_
      refine V_sub (lv' := [(4, _), (3, _), (0, _), (1, _), (2, _)]) [0, 1, 2, 3, 4] rfl ?_
      have h99 := ihi hin
      first | (rw [fbB_f hb, fbS_f hb] at h99; exact h99) | (rw [fbB_t hb, fbS_t hb] at h99; exact h99)
    · refine V_aload_n C d_rd_findBack_27 2 rfl ?_
      refine V_iload_n C d_rd_findBack_28 3 rfl ?_
      refine V_iload_n C d_rd_findBack_29 4 rfl ?_
      refine V_iload C d_rd_findBack_30 0 rfl ?_
      refine V_callVi C 17 (by decide) rfl rfl (c_rd_findReady l w (fbS σ n v S i) n nv hTi (fbS_bd hT hR hv0 hS i (by omega)) v S hv0 hS i hin) wd_310 wd_312 ws_2 wd_4 wd_313 o_rd_findReady ⟨rfl, rfl, Nat.le_of_ble_eq_true rfl, Nat.le_of_ble_eq_true rfl⟩ rfl rfl (Nat.le_of_ble_eq_true rfl) d_rd_findBack_32 ⟨Nat.zero_le _, Nat.zero_le _⟩ ?_
      refine V_ti (fbS_rd hn7 hb i) ?_
      refine V_istore (lv' := [(5, _), (4, _), (3, _), (0, _), (1, _), (2, _)]) C d_rd_findBack_35 (by decide) rfl ?_
      refine V_aload_n C d_rd_findBack_37 3 rfl ?_
      refine V_getr C 17 2 19 (by decide) rfl rfl in_rd (by decide) rfl wd_121 d_rd_findBack_38 ?_
      refine V_iload_n C d_rd_findBack_41 5 rfl ?_
      refine V_bipush C d_rd_findBack_42 (by decide) ?_
      refine V_imul C d_rd_findBack_44 ?_
      refine V_iload C d_rd_findBack_45 1 rfl ?_
      refine V_iadd C d_rd_findBack_47 ?_
      refine V_iload C d_rd_findBack_48 0 rfl ?_
      refine V_iast C 19 (S * 7 + i) (by decide) rfl (by omega) (by omega) (by decide) d_rd_findBack_50 ?_
      refine V_iload_n C d_rd_findBack_51 2 rfl ?_
      refine V_iload C d_rd_findBack_52 0 rfl ?_
      refine V_aload_n C d_rd_findBack_54 3 rfl ?_
      refine V_getr C 17 0 1 (by decide) rfl rfl in_rd (by decide) rfl wd_119 d_rd_findBack_55 ?_
      refine V_iload C d_rd_findBack_58 1 rfl ?_
      refine V_bipush C d_rd_findBack_60 (by decide) ?_
      refine V_callVi C 1 (by decide) rfl rfl (c_td_seconds l w _ i 7 (by omega) (by omega)) wd_315 wd_316 wd_317 wd_2 wd_318 o_td_seconds ⟨rfl, rfl, Nat.le_of_ble_eq_true rfl, Nat.le_of_ble_eq_true rfl⟩ rfl rfl (Nat.le_of_ble_eq_true rfl) d_rd_findBack_62 ⟨Nat.zero_le _, Nat.zero_le _⟩ ?_
      refine V_ti (b := wyS σ i 7) (by show fbS σ n v S i 16 _ = _; rw [fbS_ne (by decide)]; rfl) ?_
      refine V_iadd C d_rd_findBack_65 ?_
      have q0 := fbB_bd hT hR hv0 hS i (by omega)
      have q1 := rdG_bd (s := i) hT hR hv0 hS (by omega)
      have q2 : 0 ≤ wyS σ i 7 ∧ wyS σ i 7 ≤ 50000 := h16 (i * 8 + 7) (by omega)
      refine V_imin C wd_319 wd_320 wd_8 wd_321 (Nat.le_of_ble_eq_true rfl) (Nat.le_of_ble_eq_true rfl) (Nat.zero_le _) (Nat.zero_le _) ⟨by omega, by omega⟩ ⟨by omega, by omega⟩ d_rd_findBack_66 ?_
      refine V_istore_n (lv' := [(3, _), (5, _), (4, _), (0, _), (1, _), (2, _)]) C d_rd_findBack_69 (by decide) rfl ?_
      refine V_iinc (lv' := [(4, _), (3, _), (5, _), (0, _), (1, _), (2, _)]) C d_rd_findBack_70 2 rfl (by decide) rfl ?_
      refine V_goto C 6 d_rd_findBack_73 (by decide) ?_
      refine V_sub (lv' := [(4, _), (3, _), (0, _), (1, _), (2, _)]) [0, 1, 3, 4, 5] rfl ?_
      have h99 := ihi hin
      first | (rw [fbB_f hb, fbS_f hb] at h99; exact h99) | (rw [fbB_t hb, fbS_t hb] at h99; exact h99)

set_option maxRecDepth 20000 in
set_option maxHeartbeats 4000000 in
theorem c_rd_findBacks (l : Launch) (w : zW) (σ : Nat → Nat → Int) (n nv : Nat) (hT : tI σ n nv) (hR : bd σ 19 896 0 1073741824) : zMv l w LL CC g_rd_findBacks rm_rd_findBacks [.ref (w.1 17)] σ (bkO σ n nv) := by
  refine zMv.of g_rd_findBacks (by decide +kernel) (Nat.le_of_ble_eq_true rfl) rfl ?_
  intro p e u m args below meth c C hr
  have C : zC p u m args meth c prog_4_method_3_code 4 "RoundPlans$Rounds" w LL CC := C
  have hr : meth.sig.returnType = none := hr
  obtain ⟨hn, hn7, hv, hv3, h2, h3, h4, h5, h6, h7, h8, h9, h10, h11, h12, h13, h14, h15, h16⟩ := id hT
  have hp := pow_n hn7
  show V p l e rm_rd_findBacks u m args below meth c 4 w LL CC 0 0 (MQ below (zQv w LL CC (bkO σ n nv) u.heap.size) args u 0 0 (zA w LL.1 u.heap.size)) 0 [(0, .ref (w.1 17))] [] σ
  refine V_iconst C d_rd_findBacks_0 ?_
  refine V_istore_n (lv' := [(1, _), (0, _)]) C d_rd_findBacks_1 (by decide) rfl ?_
  refine V_sub (lv' := [(1, _), (0, _)]) [0, 1] rfl ?_
  refine loopUp (n := nv) (P := fun x => V p l e rm_rd_findBacks u m args below meth c 4 w LL CC 0 0 (MQ below (zQv w LL CC (bkO σ n nv) u.heap.size) args u 0 0 (zA w LL.1 u.heap.size)) 2 [(1, .int (zI ((x : Int)))), (0, .ref (w.1 17))] [] (bkO σ n x)) (fun x hix ihx => ?_) 0 (Nat.zero_le _)
  show V p l e rm_rd_findBacks u m args below meth c 4 w LL CC 0 0 (MQ below (zQv w LL CC (bkO σ n nv) u.heap.size) args u 0 0 (zA w LL.1 u.heap.size)) 2 [(1, .int (zI ((x : Int)))), (0, .ref (w.1 17))] [] (bkO σ n x)
  refine V_iload_n C d_rd_findBacks_2 0 rfl ?_
  refine V_aload_n C d_rd_findBacks_3 1 rfl ?_
  refine V_getr C 17 0 1 (by decide) rfl rfl in_rd (by decide) rfl wd_119 d_rd_findBacks_4 ?_
  refine V_geti C 1 1 (by decide) rfl rfl in_td (by decide) rfl wd_36 d_rd_findBacks_7 ?_
  refine V_ti (b := (nv : Int)) (by rw [bkO_ne (by decide) (by decide)]; exact hv) ?_
  refine V_cmpge C 74 d_rd_findBacks_10 (by decide) ⟨by omega, by omega⟩ ⟨by omega, by omega⟩ (fun he => ?_) (fun he => ?_)
  · have hix : x = nv := by omega
    subst hix
    exact V_vret C hr d_rd_findBacks_74 rfl
  · have hix : x < nv := by omega
    have hTx : tI (bkO σ n x) n nv := hT.congr (fun k hk => bkO_ne (by omega) (by omega) x)
    have hRx := bkO_bd hT hR x (by omega)
    refine V_iconst C d_rd_findBacks_13 ?_
    refine V_istore_n (lv' := [(2, _), (1, _), (0, _)]) C d_rd_findBacks_14 (by decide) rfl ?_
    refine V_sub (lv' := [(2, _), (1, _), (0, _)]) [0, 1, 2] rfl ?_
    refine loopUp (n := 2 ^ n - 1) (P := fun j => V p l e rm_rd_findBacks u m args below meth c 4 w LL CC 0 0 (MQ below (zQv w LL CC (bkO σ n nv) u.heap.size) args u 0 0 (zA w LL.1 u.heap.size)) 15 [(2, .int (zI (((j + 1 : Nat) : Int)))), (1, .int (zI ((x : Int)))), (0, .ref (w.1 17))] [] (bkI (bkO σ n x) n x j)) (fun j hij ihj => ?_) 0 (Nat.zero_le _)
    show V p l e rm_rd_findBacks u m args below meth c 4 w LL CC 0 0 (MQ below (zQv w LL CC (bkO σ n nv) u.heap.size) args u 0 0 (zA w LL.1 u.heap.size)) 15 [(2, .int (zI (((j + 1 : Nat) : Int)))), (1, .int (zI ((x : Int)))), (0, .ref (w.1 17))] [] (bkI (bkO σ n x) n x j)
    refine V_iload_n C d_rd_findBacks_15 0 rfl ?_
    refine V_iconst C d_rd_findBacks_16 ?_
    refine V_aload_n C d_rd_findBacks_17 2 rfl ?_
    refine V_getr C 17 0 1 (by decide) rfl rfl in_rd (by decide) rfl wd_119 d_rd_findBacks_18 ?_
    refine V_geti C 1 0 (by decide) rfl rfl in_td (by decide) rfl wd_32 d_rd_findBacks_21 ?_
    refine V_ti (b := (n : Int)) (by rw [bkI_ne (by decide) (by decide), bkO_ne (by decide) (by decide)]; exact hn) ?_
    refine V_ishl C (((2 ^ n : Nat) : Int)) d_rd_findBacks_24 (zI_shl1 (by omega)) ?_
    refine V_cmpge C 68 d_rd_findBacks_25 (by decide) ⟨by omega, by omega⟩ ⟨by omega, by omega⟩ (fun hj => ?_) (fun hj => ?_)
    · have hjj : j = 2 ^ n - 1 := by omega
      refine V_iinc (lv' := [(1, _), (2, _), (0, _)]) C d_rd_findBacks_68 1 rfl (by decide) rfl ?_
      refine V_goto C 2 d_rd_findBacks_71 (by decide) ?_
      refine V_sub (lv' := [(1, _), (0, _)]) [0, 2] rfl ?_
      subst hjj
      exact ihx hix
    · have hjn : j < 2 ^ n - 1 := by omega
      have hTj : tI (bkI (bkO σ n x) n x j) n nv := hTx.congr (fun k hk => bkI_ne (by omega) (by omega) j)
      have hRj := bkI_bd hTx hRx (show x < 3 by omega) j (by omega)
      refine V_aload_n C d_rd_findBacks_28 2 rfl ?_
      refine V_iload_n C d_rd_findBacks_29 1 rfl ?_
      refine V_iload_n C d_rd_findBacks_30 0 rfl ?_
      refine V_callVi C 17 (by decide) rfl rfl (c_rd_mayHave l w _ n nv hTj x (j + 1) (by omega) (by omega)) wd_300 wd_302 ws_0 wd_4 wd_303 o_rd_mayHave ⟨rfl, rfl, Nat.le_of_ble_eq_true rfl, Nat.le_of_ble_eq_true rfl⟩ rfl rfl (Nat.le_of_ble_eq_true rfl) d_rd_findBacks_31 ⟨Nat.zero_le _, Nat.zero_le _⟩ ?_
      refine V_istore_n (lv' := [(3, _), (2, _), (1, _), (0, _)]) C d_rd_findBacks_34 (by decide) rfl ?_
      refine V_aload_n C d_rd_findBacks_35 3 rfl ?_
      refine V_getr C 17 1 18 (by decide) rfl rfl in_rd (by decide) rfl wd_120 d_rd_findBacks_36 ?_
      refine V_iload_n C d_rd_findBacks_39 2 rfl ?_
      refine V_sipush C d_rd_findBacks_40 (by decide) ?_
      refine V_imul C d_rd_findBacks_43 ?_
      refine V_iload_n C d_rd_findBacks_44 1 rfl ?_
      refine V_iadd C d_rd_findBacks_45 ?_
      refine V_iload_n C d_rd_findBacks_46 0 rfl ?_
      refine V_ifeqB C 59 d_rd_findBacks_47 (by decide) (fun hm => ?_) (fun hm => ?_)
      · refine V_ldc C (1073741824) d_rd_findBacks_59 wd_309 ?_
        refine V_iast C 18 (x * 128 + (j + 1)) (by decide) rfl (by omega) (by omega) (by decide) d_rd_findBacks_61 ?_
        refine V_iinc (lv' := [(2, _), (3, _), (1, _), (0, _)]) C d_rd_findBacks_62 1 rfl (by decide) rfl ?_
        refine V_goto C 15 d_rd_findBacks_65 (by decide) ?_
        refine V_sub (lv' := [(2, _), (1, _), (0, _)]) [0, 2, 3] rfl ?_
        have h99 := ihj hjn
        first | (rw [bkI, if_neg hm] at h99; exact h99) | (rw [bkI, if_pos hm] at h99; exact h99)
      · refine V_aload_n C d_rd_findBacks_50 3 rfl ?_
        refine V_iload_n C d_rd_findBacks_51 2 rfl ?_
        refine V_iload_n C d_rd_findBacks_52 1 rfl ?_
        refine V_callVi C 17 (by decide) rfl rfl (c_rd_findBack l w _ n nv hTj hRj x (j + 1) (by omega) (by omega)) wd_305 wd_307 ws_1 wd_4 wd_308 o_rd_findBack ⟨rfl, rfl, Nat.le_of_ble_eq_true rfl, Nat.le_of_ble_eq_true rfl⟩ rfl rfl (Nat.le_of_ble_eq_true rfl) d_rd_findBacks_53 ⟨Nat.zero_le _, Nat.zero_le _⟩ ?_
        refine V_goto C 61 d_rd_findBacks_56 (by decide) ?_
        refine V_iast C 18 (x * 128 + (j + 1)) (by decide) rfl (by omega) (by omega) (by decide) d_rd_findBacks_61 ?_
        refine V_iinc (lv' := [(2, _), (3, _), (1, _), (0, _)]) C d_rd_findBacks_62 1 rfl (by decide) rfl ?_
        refine V_goto C 15 d_rd_findBacks_65 (by decide) ?_
        refine V_sub (lv' := [(2, _), (1, _), (0, _)]) [0, 2, 3] rfl ?_
        have h99 := ihj hjn
        first | (rw [bkI, if_neg hm] at h99; exact h99) | (rw [bkI, if_pos hm] at h99; exact h99)
end
section
/-! ROUNDS: the latest seconds, and the drive -/
def lvG (σ : Nat → Nat → Int) (P s : Nat) (B : Int) : Nat → Int := mxF (fun i => (wo P s).testBit i) (fun i => σ 20 (wo P s * 7 + i) - wyS σ s i) (if wo P s = 0 then B - wyS σ s 7 else -1)
def ltG (σ : Nat → Nat → Int) (n P s : Nat) (B : Int) : Int :=
  if ¬ (σ 9 s).toNat &&& wo P s = 0 then -1 else if lvG σ P s B n - σ 5 s < σ 3 s then -1 else min (lvG σ P s B n - σ 5 s) (σ 4 s)
theorem ltG_eq (σ : Nat → Nat → Int) (n P s : Nat) (B : Int) : ltG σ n P s B = ltF n (wyS σ) (σ 3) (σ 4) (σ 5) (fun i => (σ 9 i).toNat) B (fun P i => σ 20 (P * 7 + i)) P s := rfl
theorem lvG_t {σ : Nat → Nat → Int} {P s i : Nat} {B : Int} (hb : (wo P s).testBit i = true) : lvG σ P s B (i + 1) = max (lvG σ P s B i) (σ 20 (wo P s * 7 + i) - wyS σ s i) := by
  unfold lvG; rw [mxF, if_pos hb]
theorem lvG_f {σ : Nat → Nat → Int} {P s i : Nat} {B : Int} (hb : ¬ (wo P s).testBit i = true) : lvG σ P s B (i + 1) = lvG σ P s B i := by
  unfold lvG; rw [mxF, if_neg hb]
theorem mxF_congr {P : Nat → Bool} {f g : Nat → Int} {x : Int} : ∀ n, (∀ i, i < n → P i = true → f i = g i) → mxF P f x n = mxF P g x n
  | 0, _ => rfl
  | k + 1, h => by
    unfold mxF
    rw [mxF_congr k (fun i hi => h i (by omega))]
    split
    · rename_i h1; rw [h k (by omega) h1]
    · rfl
theorem lvG_bd {σ : Nat → Nat → Int} {n nv P s : Nat} {B : Int} (hT : tI σ n nv) (hL : bd σ 20 896 (-1) 86399) (hB : 0 ≤ B ∧ B ≤ 1073741824) (hP : P < 128) (hs : s < 7) (i : Nat) (hi : i ≤ 7) : -50000 ≤ lvG σ P s B i ∧ lvG σ P s B i ≤ 1073741824 := by
  obtain ⟨-, -, -, -, -, -, -, -, -, -, -, -, -, -, -, -, -, -, h16⟩ := hT
  have hw := wo_128 hP hs
  have h2 := h16 (s * 8 + 7) (by omega)
  have hx : -50000 ≤ (if wo P s = 0 then B - wyS σ s 7 else -1) ∧ (if wo P s = 0 then B - wyS σ s 7 else -1) ≤ 1073741824 := by
    unfold wyS
    split <;> omega
  refine ⟨Int.le_trans hx.1 (mxF_x _ _ _ _), ?_⟩
  unfold lvG
  rcases mxF_ex (fun i => (wo P s).testBit i) (fun i => σ 20 (wo P s * 7 + i) - wyS σ s i) (if wo P s = 0 then B - wyS σ s 7 else -1) i with h | ⟨j, hj, -, h⟩
  · rw [h]; exact hx.2
  · rw [h]
    have h3 := hL (wo P s * 7 + j) (by omega)
    have h4 := h16 (s * 8 + j) (by omega)
    unfold wyS
    omega
theorem ltG_bd {σ : Nat → Nat → Int} {n nv P s : Nat} {B : Int} (hT : tI σ n nv) (hs : s < 7) : -1 ≤ ltG σ n P s B ∧ ltG σ n P s B ≤ 86399 := by
  obtain ⟨-, -, -, -, -, h3, h4, h5, -⟩ := hT
  have a3 := h3 s hs
  have a4 := h4 s hs
  unfold ltG
  split
  · omega
  · split <;> omega
theorem ltG_congr {σ σ' : Nat → Nat → Int} {n P s : Nat} {B : Int} (h : ∀ k, k ≤ 16 → σ' k = σ k) (hr : ∀ i, i < n → σ' 20 (wo P s * 7 + i) = σ 20 (wo P s * 7 + i)) : ltG σ' n P s B = ltG σ n P s B := by
  have e : lvG σ' P s B n = lvG σ P s B n := by
    unfold lvG wyS
    rw [h 16 (by decide)]
    exact mxF_congr n (fun i hi _ => by rw [hr i hi])
  unfold ltG
  rw [e, h 9 (by decide), h 4 (by decide), h 3 (by decide), h 5 (by decide)]
def anb (P S : Nat) : Nat := P &&& (127 ^^^ S)
theorem zI_anb0 : ((List.range 128).all fun P => (List.range 128).all fun S => zI ((P : Nat) : Int) &&& zI (-1 - ((S : Nat) : Int)) == zI ((anb P S : Nat) : Int)) = true := by decide +kernel
theorem zI_anb (P : Nat) (hP : P < 128) (S : Nat) (hS : S < 128) : zI (P : Int) &&& zI (-1 - (S : Int)) = zI ((anb P S : Nat) : Int) := by
  have h := List.all_eq_true.mp (List.all_eq_true.mp zI_anb0 P (List.mem_range.mpr hP)) S (List.mem_range.mpr hS)
  exact eq_of_beq h
/-- findLatest: the row of the part p -/
def ltS (σ : Nat → Nat → Int) (n S : Nat) (B : Int) (p : Nat) : Nat → Nat → Nat → Int
  | 0 => σ
  | i + 1 => if anb p S = 0 ∧ p.testBit i = true then zU (ltS σ n S B p i) 20 (p * 7 + i) (ltG σ n p i B) else ltS σ n S B p i
def ltO (σ : Nat → Nat → Int) (n S : Nat) (B : Int) : Nat → Nat → Nat → Int
  | 0 => σ
  | j + 1 => ltS (ltO σ n S B j) n S B (j + 1) n
theorem ltS_ne {σ : Nat → Nat → Int} {n S p k : Nat} {B : Int} (hk : k ≠ 20) : ∀ i, ltS σ n S B p i k = σ k
  | 0 => rfl
  | i + 1 => by
    unfold ltS
    split
    · rw [zU_ne hk, ltS_ne hk i]
    · exact ltS_ne hk i
theorem ltS_out {σ : Nat → Nat → Int} {n S p j : Nat} {B : Int} : ∀ i, (j < p * 7 ∨ p * 7 + i ≤ j) → ltS σ n S B p i 20 j = σ 20 j
  | 0, _ => rfl
  | i + 1, h => by
    unfold ltS
    split
    · rw [zU_nj (by omega), ltS_out i (by omega)]
    · exact ltS_out i (by omega)
theorem ltS_lt {σ : Nat → Nat → Int} {n S p s : Nat} {B : Int} (hn : n ≤ 7) (hb : p.testBit s = true) (i : Nat) : ltG (ltS σ n S B p i) n p s B = ltG σ n p s B := by
  have := wo_lt hb
  exact ltG_congr (fun k h1 => ltS_ne (by omega) i) (fun j hj => ltS_out i (by omega))
theorem ltS_bd {σ : Nat → Nat → Int} {n nv S p : Nat} {B : Int} (hT : tI σ n nv) (hL : bd σ 20 896 (-1) 86399) : ∀ i, i ≤ 7 → bd (ltS σ n S B p i) 20 896 (-1) 86399
  | 0, _ => hL
  | i + 1, hi => by
    intro j hj
    have ih := ltS_bd (S := S) (p := p) (B := B) hT hL i (by omega) j hj
    unfold ltS
    split
    · by_cases h : j = p * 7 + i
      · subst h
        rw [zU_self]
        exact ltG_bd hT (by omega)
      · rw [zU_nj h]; exact ih
    · exact ih
theorem ltO_ne {σ : Nat → Nat → Int} {n S k : Nat} {B : Int} (hk : k ≠ 20) : ∀ j, ltO σ n S B j k = σ k
  | 0 => rfl
  | j + 1 => by
    unfold ltO
    rw [ltS_ne hk, ltO_ne hk j]
theorem ltO_bd {σ : Nat → Nat → Int} {n nv S : Nat} {B : Int} (hT : tI σ n nv) (hL : bd σ 20 896 (-1) 86399) : ∀ j, bd (ltO σ n S B j) 20 896 (-1) 86399
  | 0 => hL
  | j + 1 => by
    unfold ltO
    exact ltS_bd (hT.congr (fun k hk => ltO_ne (by omega) j)) (ltO_bd hT hL j) n hT.2.1
theorem ltS_t {σ : Nat → Nat → Int} {n S p i : Nat} {B : Int} (h1 : anb p S = 0) (h2 : p.testBit i = true) : ltS σ n S B p (i + 1) = zU (ltS σ n S B p i) 20 (p * 7 + i) (ltG σ n p i B) := by
  rw [ltS, if_pos ⟨h1, h2⟩]
theorem ltS_f {σ : Nat → Nat → Int} {n S p i : Nat} {B : Int} (h : ¬ (anb p S = 0 ∧ p.testBit i = true)) : ltS σ n S B p (i + 1) = ltS σ n S B p i := by
  rw [ltS, if_neg h]
/-- who is first in time -/
def fiF (σ : Nat → Nat → Int) (p : Nat) (t : Int) (P : Nat) : Nat → Bool := fun s => P.testBit s && decide (t + wyS σ p s ≤ σ 20 (P * 7 + s))
def fiR (σ : Nat → Nat → Int) (n p : Nat) (t : Int) (P : Nat) : Int := match fsF (fiF σ p t P) n with
  | none => -1
  | some s => (s : Int)
theorem fsF_stay {P : Nat → Bool} {i x : Nat} (h : fsF P i = some x) : ∀ j, i ≤ j → fsF P j = some x := by
  intro j hj
  induction j with
  | zero => have : i = 0 := by omega
            subst this; exact h
  | succ j ih =>
    by_cases e : i = j + 1
    · subst e; exact h
    · unfold fsF; rw [ih (by omega)]
theorem fsF_hit {P : Nat → Bool} {i n : Nat} (h : fsF P i = none) (hi : i < n) (hp : P i = true) : fsF P n = some i :=
  fsF_stay (i := i + 1) (by unfold fsF; rw [h]; dsimp only; rw [if_pos hp]) n hi
theorem fsF_miss {P : Nat → Bool} {i : Nat} (h : fsF P i = none) (hp : ¬ P i = true) : fsF P (i + 1) = none := by
  unfold fsF; rw [h]; dsimp only; rw [if_neg hp]
/-- note -/
def ntF (σ : Nat → Nat → Int) (v s : Nat) (b : Int) : Nat → Nat → Int := if 7 ≤ σ 29 v then σ else zU (zU (zU σ 28 (v * 7 + (σ 29 v).toNat) s) 29 v (σ 29 v + 1)) 27 s b
def dvF (n v : Nat) : Nat → Nat → Int → Nat → (Nat → Nat → Int) → Nat → Nat → Int
  | 0, p, t, _, σ => zU σ 30 v (t + wyS σ p 7)
  | f + 1, p, t, P, σ => if P = 0 then zU σ 30 v (t + wyS σ p 7) else match fsF (fiF σ p t P) n with
    | none => σ
    | some s => dvF n v f s (max (t + wyS σ p s) (σ 3 s) + σ 5 s) (wo P s) (ntF σ v s (max (t + wyS σ p s) (σ 3 s)))
theorem ntF_ne {σ : Nat → Nat → Int} {v s k : Nat} {b : Int} (h1 : k ≠ 27) (h2 : k ≠ 28) (h3 : k ≠ 29) : ntF σ v s b k = σ k := by
  unfold ntF
  split
  · rfl
  · rw [zU_ne h1, zU_ne h3, zU_ne h2]
theorem ntF_29 {σ : Nat → Nat → Int} {v s : Nat} {b : Int} (h : bd σ 29 3 0 7) : bd (ntF σ v s b) 29 3 0 7 := by
  intro i hi
  have h1 := h i hi
  unfold ntF
  split
  · exact h1
  · rename_i h2
    rw [zU_ne (by decide)]
    by_cases e : i = v
    · subst e; rw [zU_self]; omega
    · rw [zU_nj e, zU_ne (by decide)]; exact h1
theorem fiR_some {σ : Nat → Nat → Int} {n p P : Nat} {t : Int} (h : fiR σ n p t P ≠ -1) : ∃ s, fsF (fiF σ p t P) n = some s := by
  cases hq : fsF (fiF σ p t P) n with
  | none => exact absurd (by unfold fiR; rw [hq]) h
  | some s => exact ⟨s, rfl⟩
theorem fiR_none {σ : Nat → Nat → Int} {n p P : Nat} {t : Int} (h : fiR σ n p t P = -1) : fsF (fiF σ p t P) n = none := by
  cases hq : fsF (fiF σ p t P) n with
  | none => rfl
  | some s =>
    unfold fiR at h
    rw [hq] at h
    dsimp only at h
    omega
theorem fiR_rI {σ : Nat → Nat → Int} {n p P : Nat} {t : Int} (hn : n ≤ 7) : rI (fiR σ n p t P) := by
  unfold fiR
  split
  · exact ⟨by decide, by decide⟩
  · rename_i x hx
    have := (fsF_some hx).1
    exact ⟨by omega, by omega⟩
theorem fi_ok {σ : Nat → Nat → Int} {n p P s : Nat} {t : Int} (h : fsF (fiF σ p t P) n = some s) : s < n ∧ P.testBit s = true ∧ t + wyS σ p s ≤ σ 20 (P * 7 + s) := by
  obtain ⟨h1, h2, -⟩ := fsF_some h
  unfold fiF at h2
  simp only [Bool.and_eq_true, decide_eq_true_eq] at h2
  exact ⟨h1, h2.1, h2.2⟩
end
section
/-! Rounds: latest, first in time, drive; Found: note -/
set_option maxRecDepth 20000 in
set_option maxHeartbeats 4000000 in
theorem c_rd_findLatestAt (l : Launch) (w : zW) (σ : Nat → Nat → Int) (n nv : Nat) (hT : tI σ n nv) (hL : bd σ 20 896 (-1) 86399) (P s : Nat) (B : Int) (hP : P < 128) (hs : s < n) (hB : 0 ≤ B ∧ B ≤ 1073741824) : zMi l w LL CC g_rd_findLatestAt rm_rd_findLatestAt [.ref (w.1 17), .int (zI ((P : Int))), .int (zI ((s : Int))), .int (zI (B))] σ (ltG σ n P s B) (σ) := by
  refine zMi.of g_rd_findLatestAt (by decide +kernel) (Nat.le_of_ble_eq_true rfl) rfl ?_
  intro p e u m args below meth c C hr
  have C : zC p u m args meth c prog_4_method_10_code 8 "RoundPlans$Rounds" w LL CC := C
  have hr : meth.sig.returnType = (some .int) := hr
  obtain ⟨hn, hn7, hv, hv3, h2, h3, h4, h5, h6, h7, h8, h9, h10, h11, h12, h13, h14, h15, h16⟩ := id hT
  have hw := wo_128 hP (show s < 7 by omega)
  show V p l e rm_rd_findLatestAt u m args below meth c 8 w LL CC 0 0 (MQ below (zQi w LL CC (ltG σ n P s B) (σ) u.heap.size) args u 0 0 (zA w LL.1 u.heap.size)) 0 [(0, .ref (w.1 17)), (1, .int (zI ((P : Int)))), (2, .int (zI ((s : Int)))), (3, .int (zI (B)))] [] σ
  refine V_iload_n C d_rd_findLatestAt_0 1 rfl ?_
  refine V_iload_n C d_rd_findLatestAt_1 2 rfl ?_
  refine V_callNi C (c_rp_without l w σ P s hP (by omega)) ns_5 wd_278 wd_1 wd_279 o_rp_without ⟨rfl, rfl, Nat.le_of_ble_eq_true rfl, Nat.le_of_ble_eq_true rfl⟩ rfl rfl (Nat.le_of_ble_eq_true rfl) d_rd_findLatestAt_2 ⟨Nat.zero_le _, Nat.zero_le _⟩ ?_
  refine V_istore (lv' := [(4, _), (0, _), (1, _), (2, _), (3, _)]) C d_rd_findLatestAt_5 (by decide) rfl ?_
  refine V_aload_n C d_rd_findLatestAt_7 1 rfl ?_
  refine V_getr C 17 0 1 (by decide) rfl rfl in_rd (by decide) rfl wd_119 d_rd_findLatestAt_8 ?_
  refine V_getr C 1 9 9 (by decide) rfl rfl in_td (by decide) rfl wd_59 d_rd_findLatestAt_11 ?_
  refine V_iload_n C d_rd_findLatestAt_14 3 rfl ?_
  refine V_iald C 9 _ (by decide) rfl rfl (by omega) (by decide) d_rd_findLatestAt_15 ?_
  refine V_ti (b := (((σ 9 s).toNat : Nat) : Int)) (by have := h9 s (by omega); omega) ?_
  refine V_iload C d_rd_findLatestAt_16 0 rfl ?_
  refine V_iand C ((((σ 9 s).toNat &&& wo P s : Nat) : Int)) d_rd_findLatestAt_18 (zI_and _ _) ?_
  have ha8 : (σ 9 s).toNat &&& wo P s ≤ wo P s := Nat.and_le_right
  refine V_ifeq C 24 d_rd_findLatestAt_19 (by decide) ⟨by omega, by omega⟩ (fun f1 => ?_) (fun f1 => ?_)
  · refine V_iload C d_rd_findLatestAt_24 0 rfl ?_
    refine V_ifne C 44 d_rd_findLatestAt_26 (by decide) ⟨by omega, by omega⟩ (fun f0 => ?_) (fun f0 => ?_)
    · refine V_iconst C d_rd_findLatestAt_44 ?_
      refine V_ti (b := if wo P s = 0 then B - wyS σ s 7 else -1) (by first | (rw [if_pos (by omega)]; rfl) | (rw [if_neg (by omega)])) ?_
      refine V_istore (lv' := [(5, _), (4, _), (0, _), (1, _), (2, _), (3, _)]) C d_rd_findLatestAt_45 (by decide) rfl ?_
      refine V_iconst C d_rd_findLatestAt_47 ?_
      refine V_istore (lv' := [(6, _), (5, _), (4, _), (0, _), (1, _), (2, _), (3, _)]) C d_rd_findLatestAt_48 (by decide) rfl ?_
      refine V_sub (lv' := [(6, _), (5, _), (4, _), (0, _), (1, _), (2, _), (3, _)]) [0, 1, 2, 3, 4, 5, 6] rfl ?_
      refine loopUp (n := n) (P := fun i => V p l e rm_rd_findLatestAt u m args below meth c 8 w LL CC 0 0 (MQ below (zQi w LL CC (ltG σ n P s B) (σ) u.heap.size) args u 0 0 (zA w LL.1 u.heap.size)) 50 [(6, .int (zI ((i : Int)))), (5, .int (zI (lvG σ P s B i))), (4, .int (zI (((wo P s : Nat) : Int)))), (0, .ref (w.1 17)), (1, .int (zI ((P : Int)))), (2, .int (zI ((s : Int)))), (3, .int (zI (B)))] [] (σ)) (fun i hii ihi => ?_) 0 (Nat.zero_le _)
      show V p l e rm_rd_findLatestAt u m args below meth c 8 w LL CC 0 0 (MQ below (zQi w LL CC (ltG σ n P s B) (σ) u.heap.size) args u 0 0 (zA w LL.1 u.heap.size)) 50 [(6, .int (zI ((i : Int)))), (5, .int (zI (lvG σ P s B i))), (4, .int (zI (((wo P s : Nat) : Int)))), (0, .ref (w.1 17)), (1, .int (zI ((P : Int)))), (2, .int (zI ((s : Int)))), (3, .int (zI (B)))] [] (σ)
      refine V_iload C d_rd_findLatestAt_50 0 rfl ?_
      refine V_aload_n C d_rd_findLatestAt_52 3 rfl ?_
      refine V_getr C 17 0 1 (by decide) rfl rfl in_rd (by decide) rfl wd_119 d_rd_findLatestAt_53 ?_
      refine V_geti C 1 0 (by decide) rfl rfl in_td (by decide) rfl wd_32 d_rd_findLatestAt_56 ?_
      refine V_ti hn ?_
      refine V_cmpge C 113 d_rd_findLatestAt_59 (by decide) ⟨by omega, by omega⟩ ⟨by omega, by omega⟩ (fun he => ?_) (fun he => ?_)
      · have hin : i = n := by omega
        subst hin
        have q0 := lvG_bd hT hL hB hP (show s < 7 by omega) i (by omega)
        have q5 := h5 s (by omega)
        have q3 := h3 s (by omega)
        have q4 := h4 s (by omega)
        refine V_iload C d_rd_findLatestAt_113 1 rfl ?_
        refine V_aload_n C d_rd_findLatestAt_115 3 rfl ?_
        refine V_getr C 17 0 1 (by decide) rfl rfl in_rd (by decide) rfl wd_119 d_rd_findLatestAt_116 ?_
        refine V_getr C 1 5 5 (by decide) rfl rfl in_td (by decide) rfl wd_49 d_rd_findLatestAt_119 ?_
        refine V_iload_n C d_rd_findLatestAt_122 5 rfl ?_
        refine V_iald C 5 _ (by decide) rfl rfl (by omega) (by decide) d_rd_findLatestAt_123 ?_
        refine V_isub C d_rd_findLatestAt_124 ?_
        refine V_istore (lv' := [(6, _), (5, _), (4, _), (0, _), (1, _), (2, _), (3, _)]) C d_rd_findLatestAt_125 (by decide) rfl ?_
        refine V_iload C d_rd_findLatestAt_127 0 rfl ?_
        refine V_aload_n C d_rd_findLatestAt_129 3 rfl ?_
        refine V_getr C 17 0 1 (by decide) rfl rfl in_rd (by decide) rfl wd_119 d_rd_findLatestAt_130 ?_
        refine V_getr C 1 3 3 (by decide) rfl rfl in_td (by decide) rfl wd_43 d_rd_findLatestAt_133 ?_
        refine V_iload_n C d_rd_findLatestAt_136 5 rfl ?_
        refine V_iald C 3 _ (by decide) rfl rfl (by omega) (by decide) d_rd_findLatestAt_137 ?_
        refine V_cmpge C 145 d_rd_findLatestAt_138 (by decide) ⟨by omega, by omega⟩ ⟨by omega, by omega⟩ (fun f2 => ?_) (fun f2 => ?_)
        · refine V_iload C d_rd_findLatestAt_145 0 rfl ?_
          refine V_aload_n C d_rd_findLatestAt_147 3 rfl ?_
          refine V_getr C 17 0 1 (by decide) rfl rfl in_rd (by decide) rfl wd_119 d_rd_findLatestAt_148 ?_
          refine V_getr C 1 4 4 (by decide) rfl rfl in_td (by decide) rfl wd_46 d_rd_findLatestAt_151 ?_
          refine V_iload_n C d_rd_findLatestAt_154 5 rfl ?_
          refine V_iald C 4 _ (by decide) rfl rfl (by omega) (by decide) d_rd_findLatestAt_155 ?_
          refine V_imin C wd_319 wd_320 wd_8 wd_321 (Nat.le_of_ble_eq_true rfl) (Nat.le_of_ble_eq_true rfl) (Nat.zero_le _) (Nat.zero_le _) ⟨by omega, by omega⟩ ⟨by omega, by omega⟩ d_rd_findLatestAt_156 ?_
          exact V_iret C hr d_rd_findLatestAt_159 (by unfold ltG; first | rw [if_neg (by omega), if_neg (by omega)] | rw [if_neg (by omega), if_pos (by omega)]) rfl
        · refine V_iconst C d_rd_findLatestAt_141 ?_
          refine V_goto C 159 d_rd_findLatestAt_142 (by decide) ?_
          exact V_iret C hr d_rd_findLatestAt_159 (by unfold ltG; first | rw [if_neg (by omega), if_neg (by omega)] | rw [if_neg (by omega), if_pos (by omega)]) rfl
      · have hin : i < n := by omega
        refine V_iload C d_rd_findLatestAt_62 2 rfl ?_
        refine V_iload C d_rd_findLatestAt_64 0 rfl ?_
        refine V_callNi C (c_rp_holds l w σ (wo P s) i hw (by omega)) ns_4 wd_285 wd_1 wd_286 o_rp_holds ⟨rfl, rfl, Nat.le_of_ble_eq_true rfl, Nat.le_of_ble_eq_true rfl⟩ rfl rfl (Nat.le_of_ble_eq_true rfl) d_rd_findLatestAt_66 ⟨Nat.zero_le _, Nat.zero_le _⟩ ?_
        refine V_ifeqB C 107 d_rd_findLatestAt_69 (by decide) (fun hb => ?_) (fun hb => ?_)
        · refine V_iinc (lv' := [(6, _), (5, _), (4, _), (0, _), (1, _), (2, _), (3, _)]) C d_rd_findLatestAt_107 0 rfl (by decide) rfl ?_
          refine V_goto C 50 d_rd_findLatestAt_110 (by decide) ?_
          refine V_sub (lv' := [(6, _), (5, _), (4, _), (0, _), (1, _), (2, _), (3, _)]) [0, 1, 2, 3, 4, 5, 6] rfl ?_
          have h99 := ihi hin
          first | (rw [lvG_f hb] at h99; exact h99) | (rw [lvG_t hb] at h99; exact h99)
        · refine V_aload_n C d_rd_findLatestAt_72 3 rfl ?_
          refine V_getr C 17 3 20 (by decide) rfl rfl in_rd (by decide) rfl wd_122 d_rd_findLatestAt_73 ?_
          refine V_iload C d_rd_findLatestAt_76 2 rfl ?_
          refine V_bipush C d_rd_findLatestAt_78 (by decide) ?_
          refine V_imul C d_rd_findLatestAt_80 ?_
          refine V_iload C d_rd_findLatestAt_81 0 rfl ?_
          refine V_iadd C d_rd_findLatestAt_83 ?_
          refine V_iald C 20 (wo P s * 7 + i) (by decide) rfl (by omega) (by omega) (by decide) d_rd_findLatestAt_84 ?_
          refine V_aload_n C d_rd_findLatestAt_85 3 rfl ?_
          refine V_getr C 17 0 1 (by decide) rfl rfl in_rd (by decide) rfl wd_119 d_rd_findLatestAt_86 ?_
          refine V_iload_n C d_rd_findLatestAt_89 5 rfl ?_
          refine V_iload C d_rd_findLatestAt_90 0 rfl ?_
          refine V_callVi C 1 (by decide) rfl rfl (c_td_seconds l w σ s i (by omega) (by omega)) wd_315 wd_316 wd_317 wd_2 wd_318 o_td_seconds ⟨rfl, rfl, Nat.le_of_ble_eq_true rfl, Nat.le_of_ble_eq_true rfl⟩ rfl rfl (Nat.le_of_ble_eq_true rfl) d_rd_findLatestAt_92 ⟨Nat.zero_le _, Nat.zero_le _⟩ ?_
          refine V_isub C d_rd_findLatestAt_95 ?_
          refine V_istore (lv' := [(7, _), (6, _), (5, _), (4, _), (0, _), (1, _), (2, _), (3, _)]) C d_rd_findLatestAt_96 (by decide) rfl ?_
          refine V_iload C d_rd_findLatestAt_98 2 rfl ?_
          refine V_iload C d_rd_findLatestAt_100 0 rfl ?_
          have q0 := lvG_bd hT hL hB hP (show s < 7 by omega) i (by omega)
          have q1 := hL (wo P s * 7 + i) (by omega)
          have q2 := h16 (s * 8 + i) (by omega)
          refine V_imax C wd_322 wd_323 wd_8 wd_324 (Nat.le_of_ble_eq_true rfl) (Nat.le_of_ble_eq_true rfl) (Nat.zero_le _) (Nat.zero_le _) ⟨by omega, by omega⟩ ⟨by omega, by omega⟩ d_rd_findLatestAt_102 ?_
          refine V_istore (lv' := [(5, _), (7, _), (6, _), (4, _), (0, _), (1, _), (2, _), (3, _)]) C d_rd_findLatestAt_105 (by decide) rfl ?_
          refine V_iinc (lv' := [(6, _), (5, _), (7, _), (4, _), (0, _), (1, _), (2, _), (3, _)]) C d_rd_findLatestAt_107 2 rfl (by decide) rfl ?_
          refine V_goto C 50 d_rd_findLatestAt_110 (by decide) ?_
          refine V_sub (lv' := [(6, _), (5, _), (4, _), (0, _), (1, _), (2, _), (3, _)]) [0, 1, 3, 4, 5, 6, 7] rfl ?_
          have h99 := ihi hin
          first | (rw [lvG_f hb] at h99; exact h99) | (rw [lvG_t hb] at h99; exact h99)
    · refine V_iload_n C d_rd_findLatestAt_29 4 rfl ?_
      refine V_aload_n C d_rd_findLatestAt_30 1 rfl ?_
      refine V_getr C 17 0 1 (by decide) rfl rfl in_rd (by decide) rfl wd_119 d_rd_findLatestAt_31 ?_
      refine V_iload_n C d_rd_findLatestAt_34 3 rfl ?_
      refine V_bipush C d_rd_findLatestAt_35 (by decide) ?_
      refine V_callVi C 1 (by decide) rfl rfl (c_td_seconds l w σ s 7 (by omega) (by omega)) wd_315 wd_316 wd_317 wd_2 wd_318 o_td_seconds ⟨rfl, rfl, Nat.le_of_ble_eq_true rfl, Nat.le_of_ble_eq_true rfl⟩ rfl rfl (Nat.le_of_ble_eq_true rfl) d_rd_findLatestAt_37 ⟨Nat.zero_le _, Nat.zero_le _⟩ ?_
      refine V_isub C d_rd_findLatestAt_40 ?_
      refine V_goto C 45 d_rd_findLatestAt_41 (by decide) ?_
      refine V_ti (b := if wo P s = 0 then B - wyS σ s 7 else -1) (by first | (rw [if_pos (by omega)]; rfl) | (rw [if_neg (by omega)])) ?_
      refine V_istore (lv' := [(5, _), (4, _), (0, _), (1, _), (2, _), (3, _)]) C d_rd_findLatestAt_45 (by decide) rfl ?_
      refine V_iconst C d_rd_findLatestAt_47 ?_
      refine V_istore (lv' := [(6, _), (5, _), (4, _), (0, _), (1, _), (2, _), (3, _)]) C d_rd_findLatestAt_48 (by decide) rfl ?_
      refine V_sub (lv' := [(6, _), (5, _), (4, _), (0, _), (1, _), (2, _), (3, _)]) [0, 1, 2, 3, 4, 5, 6] rfl ?_
      refine loopUp (n := n) (P := fun i => V p l e rm_rd_findLatestAt u m args below meth c 8 w LL CC 0 0 (MQ below (zQi w LL CC (ltG σ n P s B) (σ) u.heap.size) args u 0 0 (zA w LL.1 u.heap.size)) 50 [(6, .int (zI ((i : Int)))), (5, .int (zI (lvG σ P s B i))), (4, .int (zI (((wo P s : Nat) : Int)))), (0, .ref (w.1 17)), (1, .int (zI ((P : Int)))), (2, .int (zI ((s : Int)))), (3, .int (zI (B)))] [] (σ)) (fun i hii ihi => ?_) 0 (Nat.zero_le _)
      show V p l e rm_rd_findLatestAt u m args below meth c 8 w LL CC 0 0 (MQ below (zQi w LL CC (ltG σ n P s B) (σ) u.heap.size) args u 0 0 (zA w LL.1 u.heap.size)) 50 [(6, .int (zI ((i : Int)))), (5, .int (zI (lvG σ P s B i))), (4, .int (zI (((wo P s : Nat) : Int)))), (0, .ref (w.1 17)), (1, .int (zI ((P : Int)))), (2, .int (zI ((s : Int)))), (3, .int (zI (B)))] [] (σ)
      refine V_iload C d_rd_findLatestAt_50 0 rfl ?_
      refine V_aload_n C d_rd_findLatestAt_52 3 rfl ?_
      refine V_getr C 17 0 1 (by decide) rfl rfl in_rd (by decide) rfl wd_119 d_rd_findLatestAt_53 ?_
      refine V_geti C 1 0 (by decide) rfl rfl in_td (by decide) rfl wd_32 d_rd_findLatestAt_56 ?_
      refine V_ti hn ?_
      refine V_cmpge C 113 d_rd_findLatestAt_59 (by decide) ⟨by omega, by omega⟩ ⟨by omega, by omega⟩ (fun he => ?_) (fun he => ?_)
      · have hin : i = n := by omega
        subst hin
        have q0 := lvG_bd hT hL hB hP (show s < 7 by omega) i (by omega)
        have q5 := h5 s (by omega)
        have q3 := h3 s (by omega)
        have q4 := h4 s (by omega)
        refine V_iload C d_rd_findLatestAt_113 1 rfl ?_
        refine V_aload_n C d_rd_findLatestAt_115 3 rfl ?_
        refine V_getr C 17 0 1 (by decide) rfl rfl in_rd (by decide) rfl wd_119 d_rd_findLatestAt_116 ?_
        refine V_getr C 1 5 5 (by decide) rfl rfl in_td (by decide) rfl wd_49 d_rd_findLatestAt_119 ?_
        refine V_iload_n C d_rd_findLatestAt_122 5 rfl ?_
        refine V_iald C 5 _ (by decide) rfl rfl (by omega) (by decide) d_rd_findLatestAt_123 ?_
        refine V_isub C d_rd_findLatestAt_124 ?_
        refine V_istore (lv' := [(6, _), (5, _), (4, _), (0, _), (1, _), (2, _), (3, _)]) C d_rd_findLatestAt_125 (by decide) rfl ?_
        refine V_iload C d_rd_findLatestAt_127 0 rfl ?_
        refine V_aload_n C d_rd_findLatestAt_129 3 rfl ?_
        refine V_getr C 17 0 1 (by decide) rfl rfl in_rd (by decide) rfl wd_119 d_rd_findLatestAt_130 ?_
        refine V_getr C 1 3 3 (by decide) rfl rfl in_td (by decide) rfl wd_43 d_rd_findLatestAt_133 ?_
        refine V_iload_n C d_rd_findLatestAt_136 5 rfl ?_
        refine V_iald C 3 _ (by decide) rfl rfl (by omega) (by decide) d_rd_findLatestAt_137 ?_
        refine V_cmpge C 145 d_rd_findLatestAt_138 (by decide) ⟨by omega, by omega⟩ ⟨by omega, by omega⟩ (fun f2 => ?_) (fun f2 => ?_)
        · refine V_iload C d_rd_findLatestAt_145 0 rfl ?_
          refine V_aload_n C d_rd_findLatestAt_147 3 rfl ?_
          refine V_getr C 17 0 1 (by decide) rfl rfl in_rd (by decide) rfl wd_119 d_rd_findLatestAt_148 ?_
          refine V_getr C 1 4 4 (by decide) rfl rfl in_td (by decide) rfl wd_46 d_rd_findLatestAt_151 ?_
          refine V_iload_n C d_rd_findLatestAt_154 5 rfl ?_
          refine V_iald C 4 _ (by decide) rfl rfl (by omega) (by decide) d_rd_findLatestAt_155 ?_
          refine V_imin C wd_319 wd_320 wd_8 wd_321 (Nat.le_of_ble_eq_true rfl) (Nat.le_of_ble_eq_true rfl) (Nat.zero_le _) (Nat.zero_le _) ⟨by omega, by omega⟩ ⟨by omega, by omega⟩ d_rd_findLatestAt_156 ?_
          exact V_iret C hr d_rd_findLatestAt_159 (by unfold ltG; first | rw [if_neg (by omega), if_neg (by omega)] | rw [if_neg (by omega), if_pos (by omega)]) rfl
        · refine V_iconst C d_rd_findLatestAt_141 ?_
          refine V_goto C 159 d_rd_findLatestAt_142 (by decide) ?_
          exact V_iret C hr d_rd_findLatestAt_159 (by unfold ltG; first | rw [if_neg (by omega), if_neg (by omega)] | rw [if_neg (by omega), if_pos (by omega)]) rfl
      · have hin : i < n := by omega
        refine V_iload C d_rd_findLatestAt_62 2 rfl ?_
        refine V_iload C d_rd_findLatestAt_64 0 rfl ?_
        refine V_callNi C (c_rp_holds l w σ (wo P s) i hw (by omega)) ns_4 wd_285 wd_1 wd_286 o_rp_holds ⟨rfl, rfl, Nat.le_of_ble_eq_true rfl, Nat.le_of_ble_eq_true rfl⟩ rfl rfl (Nat.le_of_ble_eq_true rfl) d_rd_findLatestAt_66 ⟨Nat.zero_le _, Nat.zero_le _⟩ ?_
        refine V_ifeqB C 107 d_rd_findLatestAt_69 (by decide) (fun hb => ?_) (fun hb => ?_)
        · refine V_iinc (lv' := [(6, _), (5, _), (4, _), (0, _), (1, _), (2, _), (3, _)]) C d_rd_findLatestAt_107 0 rfl (by decide) rfl ?_
          refine V_goto C 50 d_rd_findLatestAt_110 (by decide) ?_
          refine V_sub (lv' := [(6, _), (5, _), (4, _), (0, _), (1, _), (2, _), (3, _)]) [0, 1, 2, 3, 4, 5, 6] rfl ?_
          have h99 := ihi hin
          first | (rw [lvG_f hb] at h99; exact h99) | (rw [lvG_t hb] at h99; exact h99)
        · refine V_aload_n C d_rd_findLatestAt_72 3 rfl ?_
          refine V_getr C 17 3 20 (by decide) rfl rfl in_rd (by decide) rfl wd_122 d_rd_findLatestAt_73 ?_
          refine V_iload C d_rd_findLatestAt_76 2 rfl ?_
          refine V_bipush C d_rd_findLatestAt_78 (by decide) ?_
          refine V_imul C d_rd_findLatestAt_80 ?_
          refine V_iload C d_rd_findLatestAt_81 0 rfl ?_
          refine V_iadd C d_rd_findLatestAt_83 ?_
          refine V_iald C 20 (wo P s * 7 + i) (by decide) rfl (by omega) (by omega) (by decide) d_rd_findLatestAt_84 ?_
          refine V_aload_n C d_rd_findLatestAt_85 3 rfl ?_
          refine V_getr C 17 0 1 (by decide) rfl rfl in_rd (by decide) rfl wd_119 d_rd_findLatestAt_86 ?_
          refine V_iload_n C d_rd_findLatestAt_89 5 rfl ?_
          refine V_iload C d_rd_findLatestAt_90 0 rfl ?_
          refine V_callVi C 1 (by decide) rfl rfl (c_td_seconds l w σ s i (by omega) (by omega)) wd_315 wd_316 wd_317 wd_2 wd_318 o_td_seconds ⟨rfl, rfl, Nat.le_of_ble_eq_true rfl, Nat.le_of_ble_eq_true rfl⟩ rfl rfl (Nat.le_of_ble_eq_true rfl) d_rd_findLatestAt_92 ⟨Nat.zero_le _, Nat.zero_le _⟩ ?_
          refine V_isub C d_rd_findLatestAt_95 ?_
          refine V_istore (lv' := [(7, _), (6, _), (5, _), (4, _), (0, _), (1, _), (2, _), (3, _)]) C d_rd_findLatestAt_96 (by decide) rfl ?_
          refine V_iload C d_rd_findLatestAt_98 2 rfl ?_
          refine V_iload C d_rd_findLatestAt_100 0 rfl ?_
          have q0 := lvG_bd hT hL hB hP (show s < 7 by omega) i (by omega)
          have q1 := hL (wo P s * 7 + i) (by omega)
          have q2 := h16 (s * 8 + i) (by omega)
          refine V_imax C wd_322 wd_323 wd_8 wd_324 (Nat.le_of_ble_eq_true rfl) (Nat.le_of_ble_eq_true rfl) (Nat.zero_le _) (Nat.zero_le _) ⟨by omega, by omega⟩ ⟨by omega, by omega⟩ d_rd_findLatestAt_102 ?_
          refine V_istore (lv' := [(5, _), (7, _), (6, _), (4, _), (0, _), (1, _), (2, _), (3, _)]) C d_rd_findLatestAt_105 (by decide) rfl ?_
          refine V_iinc (lv' := [(6, _), (5, _), (7, _), (4, _), (0, _), (1, _), (2, _), (3, _)]) C d_rd_findLatestAt_107 2 rfl (by decide) rfl ?_
          refine V_goto C 50 d_rd_findLatestAt_110 (by decide) ?_
          refine V_sub (lv' := [(6, _), (5, _), (4, _), (0, _), (1, _), (2, _), (3, _)]) [0, 1, 3, 4, 5, 6, 7] rfl ?_
          have h99 := ihi hin
          first | (rw [lvG_f hb] at h99; exact h99) | (rw [lvG_t hb] at h99; exact h99)
  · refine V_iconst C d_rd_findLatestAt_22 ?_
    exact V_iret C hr d_rd_findLatestAt_23 (by unfold ltG; rw [if_pos (by omega)]) rfl

set_option maxRecDepth 20000 in
set_option maxHeartbeats 4000000 in
theorem c_rd_findLatest (l : Launch) (w : zW) (σ : Nat → Nat → Int) (n nv : Nat) (hT : tI σ n nv) (hL : bd σ 20 896 (-1) 86399) (S : Nat) (B : Int) (hS : S < 128) (hB : 0 ≤ B ∧ B ≤ 1073741824) : zMv l w LL CC g_rd_findLatest rm_rd_findLatest [.ref (w.1 17), .int (zI ((S : Int))), .int (zI (B))] σ (ltO σ n S B S) := by
  refine zMv.of g_rd_findLatest (by decide +kernel) (Nat.le_of_ble_eq_true rfl) rfl ?_
  intro p e u m args below meth c C hr
  have C : zC p u m args meth c prog_4_method_9_code 5 "RoundPlans$Rounds" w LL CC := C
  have hr : meth.sig.returnType = none := hr
  obtain ⟨hn, hn7, hv, hv3, h2, h3, h4, h5, h6, h7, h8, h9, h10, h11, h12, h13, h14, h15, h16⟩ := id hT
  show V p l e rm_rd_findLatest u m args below meth c 5 w LL CC 0 0 (MQ below (zQv w LL CC (ltO σ n S B S) u.heap.size) args u 0 0 (zA w LL.1 u.heap.size)) 0 [(0, .ref (w.1 17)), (1, .int (zI ((S : Int)))), (2, .int (zI (B)))] [] σ
  refine V_iconst C d_rd_findLatest_0 ?_
  refine V_istore_n (lv' := [(3, _), (0, _), (1, _), (2, _)]) C d_rd_findLatest_1 (by decide) rfl ?_
  refine V_sub (lv' := [(3, _), (0, _), (1, _), (2, _)]) [0, 1, 2, 3] rfl ?_
  refine loopUp (n := S) (P := fun j => V p l e rm_rd_findLatest u m args below meth c 5 w LL CC 0 0 (MQ below (zQv w LL CC (ltO σ n S B S) u.heap.size) args u 0 0 (zA w LL.1 u.heap.size)) 2 [(3, .int (zI (((j + 1 : Nat) : Int)))), (0, .ref (w.1 17)), (1, .int (zI ((S : Int)))), (2, .int (zI (B)))] [] (ltO σ n S B j)) (fun j hij ihj => ?_) 0 (Nat.zero_le _)
  show V p l e rm_rd_findLatest u m args below meth c 5 w LL CC 0 0 (MQ below (zQv w LL CC (ltO σ n S B S) u.heap.size) args u 0 0 (zA w LL.1 u.heap.size)) 2 [(3, .int (zI (((j + 1 : Nat) : Int)))), (0, .ref (w.1 17)), (1, .int (zI ((S : Int)))), (2, .int (zI (B)))] [] (ltO σ n S B j)
  refine V_iload_n C d_rd_findLatest_2 0 rfl ?_
  refine V_iload_n C d_rd_findLatest_3 2 rfl ?_
  refine V_cmpgt C 71 d_rd_findLatest_4 (by decide) ⟨by omega, by omega⟩ ⟨by omega, by omega⟩ (fun hj => ?_) (fun hj => ?_)
  · have hjj : j = S := by omega
    exact V_vret C hr d_rd_findLatest_71 (by subst hjj; rfl)
  · have hjn : j < S := by omega
    have hTj : tI (ltO σ n S B j) n nv := hT.congr (fun k hk => ltO_ne (by omega) j)
    have hLj := ltO_bd (S := S) (B := B) hT hL j
    refine V_iconst C d_rd_findLatest_7 ?_
    refine V_istore (lv' := [(4, _), (3, _), (0, _), (1, _), (2, _)]) C d_rd_findLatest_8 (by decide) rfl ?_
    refine V_sub (lv' := [(4, _), (3, _), (0, _), (1, _), (2, _)]) [0, 1, 2, 3, 4] rfl ?_
    refine loopUp (n := n) (P := fun i => V p l e rm_rd_findLatest u m args below meth c 5 w LL CC 0 0 (MQ below (zQv w LL CC (ltO σ n S B S) u.heap.size) args u 0 0 (zA w LL.1 u.heap.size)) 10 [(4, .int (zI ((i : Int)))), (3, .int (zI (((j + 1 : Nat) : Int)))), (0, .ref (w.1 17)), (1, .int (zI ((S : Int)))), (2, .int (zI (B)))] [] (ltS (ltO σ n S B j) n S B (j + 1) i)) (fun i hii ihi => ?_) 0 (Nat.zero_le _)
    show V p l e rm_rd_findLatest u m args below meth c 5 w LL CC 0 0 (MQ below (zQv w LL CC (ltO σ n S B S) u.heap.size) args u 0 0 (zA w LL.1 u.heap.size)) 10 [(4, .int (zI ((i : Int)))), (3, .int (zI (((j + 1 : Nat) : Int)))), (0, .ref (w.1 17)), (1, .int (zI ((S : Int)))), (2, .int (zI (B)))] [] (ltS (ltO σ n S B j) n S B (j + 1) i)
    refine V_iload C d_rd_findLatest_10 0 rfl ?_
    refine V_aload_n C d_rd_findLatest_12 2 rfl ?_
    refine V_getr C 17 0 1 (by decide) rfl rfl in_rd (by decide) rfl wd_119 d_rd_findLatest_13 ?_
    refine V_geti C 1 0 (by decide) rfl rfl in_td (by decide) rfl wd_32 d_rd_findLatest_16 ?_
    refine V_ti (b := (n : Int)) (by rw [ltS_ne (by decide), ltO_ne (by decide)]; exact hn) ?_
    refine V_cmpge C 65 d_rd_findLatest_19 (by decide) ⟨by omega, by omega⟩ ⟨by omega, by omega⟩ (fun he => ?_) (fun he => ?_)
    · have hin : i = n := by omega
      subst hin
      refine V_iinc (lv' := [(3, _), (4, _), (0, _), (1, _), (2, _)]) C d_rd_findLatest_65 1 rfl (by decide) rfl ?_
      refine V_goto C 2 d_rd_findLatest_68 (by decide) ?_
      refine V_sub (lv' := [(3, _), (0, _), (1, _), (2, _)]) [0, 2, 3, 4] rfl ?_
      exact ihj hjn
    · have hin : i < n := by omega
      have hTi : tI (ltS (ltO σ n S B j) n S B (j + 1) i) n nv := hTj.congr (fun k hk => ltS_ne (by omega) i)
      refine V_iload_n C d_rd_findLatest_22 1 rfl ?_
      refine V_iload_n C d_rd_findLatest_23 3 rfl ?_
      refine V_iconst C d_rd_findLatest_24 ?_
      refine V_ixor C (-1 - (S : Int)) d_rd_findLatest_25 (zI_not S hS) ?_
      refine V_iand C (((anb (j + 1) S : Nat) : Int)) d_rd_findLatest_26 (zI_anb (j + 1) (by omega) S hS) ?_
      have ha8 : anb (j + 1) S ≤ j + 1 := Nat.and_le_left
      refine V_ifne C 59 d_rd_findLatest_27 (by decide) ⟨by omega, by omega⟩ (fun g1 => ?_) (fun g1 => ?_)
      · refine V_iinc (lv' := [(4, _), (3, _), (0, _), (1, _), (2, _)]) C d_rd_findLatest_59 0 rfl (by decide) rfl ?_
        refine V_goto C 10 d_rd_findLatest_62 (by decide) ?_
        refine V_sub (lv' := [(4, _), (3, _), (0, _), (1, _), (2, _)]) [0, 1, 2, 3, 4] rfl ?_
        have h99 := ihi hin
        first | (rw [ltS_t (by omega) hb] at h99; exact h99) | (rw [ltS_f (by intro z; first | omega | exact hb z.2)] at h99; exact h99)
      · refine V_iload_n C d_rd_findLatest_30 1 rfl ?_
        refine V_iload C d_rd_findLatest_31 0 rfl ?_
        refine V_callNi C (c_rp_holds l w _ (j + 1) i (by omega) (by omega)) ns_4 wd_285 wd_1 wd_286 o_rp_holds ⟨rfl, rfl, Nat.le_of_ble_eq_true rfl, Nat.le_of_ble_eq_true rfl⟩ rfl rfl (Nat.le_of_ble_eq_true rfl) d_rd_findLatest_33 ⟨Nat.zero_le _, Nat.zero_le _⟩ ?_
        refine V_ifeqB C 59 d_rd_findLatest_36 (by decide) (fun hb => ?_) (fun hb => ?_)
        · refine V_iinc (lv' := [(4, _), (3, _), (0, _), (1, _), (2, _)]) C d_rd_findLatest_59 0 rfl (by decide) rfl ?_
          refine V_goto C 10 d_rd_findLatest_62 (by decide) ?_
          refine V_sub (lv' := [(4, _), (3, _), (0, _), (1, _), (2, _)]) [0, 1, 2, 3, 4] rfl ?_
          have h99 := ihi hin
          first | (rw [ltS_t (by omega) hb] at h99; exact h99) | (rw [ltS_f (by intro z; first | omega | exact hb z.2)] at h99; exact h99)
        · refine V_aload_n C d_rd_findLatest_39 2 rfl ?_
          refine V_getr C 17 3 20 (by decide) rfl rfl in_rd (by decide) rfl wd_122 d_rd_findLatest_40 ?_
          refine V_iload_n C d_rd_findLatest_43 1 rfl ?_
          refine V_bipush C d_rd_findLatest_44 (by decide) ?_
          refine V_imul C d_rd_findLatest_46 ?_
          refine V_iload C d_rd_findLatest_47 0 rfl ?_
          refine V_iadd C d_rd_findLatest_49 ?_
          refine V_aload_n C d_rd_findLatest_50 2 rfl ?_
          refine V_iload_n C d_rd_findLatest_51 1 rfl ?_
          refine V_iload C d_rd_findLatest_52 0 rfl ?_
          refine V_iload_n C d_rd_findLatest_54 4 rfl ?_
          refine V_callVi C 17 (by decide) rfl rfl (c_rd_findLatestAt l w _ n nv hTi (ltS_bd hTj hLj i (by omega)) (j + 1) i B (by omega) hin hB) wd_397 wd_399 ws_9 wd_4 wd_400 o_rd_findLatestAt ⟨rfl, rfl, Nat.le_of_ble_eq_true rfl, Nat.le_of_ble_eq_true rfl⟩ rfl rfl (Nat.le_of_ble_eq_true rfl) d_rd_findLatest_55 ⟨Nat.zero_le _, Nat.zero_le _⟩ ?_
          refine V_ti (ltS_lt hn7 hb i) ?_
          refine V_iast C 20 ((j + 1) * 7 + i) (by decide) rfl (by omega) (by omega) (by decide) d_rd_findLatest_58 ?_
          refine V_iinc (lv' := [(4, _), (3, _), (0, _), (1, _), (2, _)]) C d_rd_findLatest_59 0 rfl (by decide) rfl ?_
          refine V_goto C 10 d_rd_findLatest_62 (by decide) ?_
          refine V_sub (lv' := [(4, _), (3, _), (0, _), (1, _), (2, _)]) [0, 1, 2, 3, 4] rfl ?_
          have h99 := ihi hin
          first | (rw [ltS_t (by omega) hb] at h99; exact h99) | (rw [ltS_f (by intro z; first | omega | exact hb z.2)] at h99; exact h99)

set_option maxRecDepth 20000 in
set_option maxHeartbeats 4000000 in
theorem c_rd_firstInTime (l : Launch) (w : zW) (σ : Nat → Nat → Int) (n nv : Nat) (hT : tI σ n nv) (hL : bd σ 20 896 (-1) 86399) (p0 : Nat) (t : Int) (P : Nat) (hp : p0 < 8) (ht : 0 ≤ t ∧ t ≤ 100000) (hP : P < 128) : zMi l w LL CC g_rd_firstInTime rm_rd_firstInTime [.ref (w.1 17), .int (zI ((p0 : Int))), .int (zI (t)), .int (zI ((P : Int)))] σ (fiR σ n p0 t P) (σ) := by
  refine zMi.of g_rd_firstInTime (by decide +kernel) (Nat.le_of_ble_eq_true rfl) rfl ?_
  intro p e u m args below meth c C hr
  have C : zC p u m args meth c prog_4_method_8_code 5 "RoundPlans$Rounds" w LL CC := C
  have hr : meth.sig.returnType = (some .int) := hr
  obtain ⟨hn, hn7, hv, hv3, h2, h3, h4, h5, h6, h7, h8, h9, h10, h11, h12, h13, h14, h15, h16⟩ := id hT
  show V p l e rm_rd_firstInTime u m args below meth c 5 w LL CC 0 0 (MQ below (zQi w LL CC (fiR σ n p0 t P) (σ) u.heap.size) args u 0 0 (zA w LL.1 u.heap.size)) 0 [(0, .ref (w.1 17)), (1, .int (zI ((p0 : Int)))), (2, .int (zI (t))), (3, .int (zI ((P : Int))))] [] σ
  refine V_iconst C d_rd_firstInTime_0 ?_
  refine V_istore (lv' := [(4, _), (0, _), (1, _), (2, _), (3, _)]) C d_rd_firstInTime_1 (by decide) rfl ?_
  refine V_sub (lv' := [(4, _), (0, _), (1, _), (2, _), (3, _)]) [0, 1, 2, 3, 4] rfl ?_
  refine loopUp (n := n) (P := fun i => fsF (fiF σ p0 t P) i = none → V p l e rm_rd_firstInTime u m args below meth c 5 w LL CC 0 0 (MQ below (zQi w LL CC (fiR σ n p0 t P) (σ) u.heap.size) args u 0 0 (zA w LL.1 u.heap.size)) 3 [(4, .int (zI (i : Int))), (0, .ref (w.1 17)), (1, .int (zI (p0 : Int))), (2, .int (zI t)), (3, .int (zI (P : Int)))] [] σ) (fun i hii ihi => ?_) 0 (Nat.zero_le _) rfl
  intro hno
  show V p l e rm_rd_firstInTime u m args below meth c 5 w LL CC 0 0 (MQ below (zQi w LL CC (fiR σ n p0 t P) (σ) u.heap.size) args u 0 0 (zA w LL.1 u.heap.size)) 3 [(4, .int (zI (i : Int))), (0, .ref (w.1 17)), (1, .int (zI (p0 : Int))), (2, .int (zI t)), (3, .int (zI (P : Int)))] [] σ
  refine V_iload C d_rd_firstInTime_3 0 rfl ?_
  refine V_aload_n C d_rd_firstInTime_5 1 rfl ?_
  refine V_getr C 17 0 1 (by decide) rfl rfl in_rd (by decide) rfl wd_119 d_rd_firstInTime_6 ?_
  refine V_geti C 1 0 (by decide) rfl rfl in_td (by decide) rfl wd_32 d_rd_firstInTime_9 ?_
  refine V_ti hn ?_
  refine V_cmpge C 60 d_rd_firstInTime_12 (by decide) ⟨by omega, by omega⟩ ⟨by omega, by omega⟩ (fun he => ?_) (fun he => ?_)
  · have hin : i = n := by omega
    subst hin
    refine V_iconst C d_rd_firstInTime_60 ?_
    exact V_iret C hr d_rd_firstInTime_61 (by unfold fiR; rw [hno]) rfl
  · have hin : i < n := by omega
    refine V_iload_n C d_rd_firstInTime_15 4 rfl ?_
    refine V_iload C d_rd_firstInTime_16 0 rfl ?_
    refine V_callNi C (c_rp_holds l w σ P i hP (by omega)) ns_4 wd_285 wd_1 wd_286 o_rp_holds ⟨rfl, rfl, Nat.le_of_ble_eq_true rfl, Nat.le_of_ble_eq_true rfl⟩ rfl rfl (Nat.le_of_ble_eq_true rfl) d_rd_firstInTime_18 ⟨Nat.zero_le _, Nat.zero_le _⟩ ?_
    refine V_ifeqB C 54 d_rd_firstInTime_21 (by decide) (fun hb => ?_) (fun hb => ?_)
    · refine V_iinc (lv' := [(4, _), (0, _), (1, _), (2, _), (3, _)]) C d_rd_firstInTime_54 0 rfl (by decide) rfl ?_
      refine V_goto C 3 d_rd_firstInTime_57 (by decide) ?_
      refine V_sub (lv' := [(4, _), (0, _), (1, _), (2, _), (3, _)]) [0, 1, 2, 3, 4] rfl ?_
      exact ihi hin (fsF_miss hno (by unfold fiF; intro z; simp only [Bool.and_eq_true, decide_eq_true_eq] at z; first | exact hb z.1 | (have z2 := z.2; unfold wyS at z2; omega)))
    · refine V_iload_n C d_rd_firstInTime_24 3 rfl ?_
      refine V_aload_n C d_rd_firstInTime_25 1 rfl ?_
      refine V_getr C 17 0 1 (by decide) rfl rfl in_rd (by decide) rfl wd_119 d_rd_firstInTime_26 ?_
      refine V_iload_n C d_rd_firstInTime_29 2 rfl ?_
      refine V_iload C d_rd_firstInTime_30 0 rfl ?_
      refine V_callVi C 1 (by decide) rfl rfl (c_td_seconds l w σ p0 i (by omega) (by omega)) wd_315 wd_316 wd_317 wd_2 wd_318 o_td_seconds ⟨rfl, rfl, Nat.le_of_ble_eq_true rfl, Nat.le_of_ble_eq_true rfl⟩ rfl rfl (Nat.le_of_ble_eq_true rfl) d_rd_firstInTime_32 ⟨Nat.zero_le _, Nat.zero_le _⟩ ?_
      refine V_iadd C d_rd_firstInTime_35 ?_
      refine V_aload_n C d_rd_firstInTime_36 1 rfl ?_
      refine V_getr C 17 3 20 (by decide) rfl rfl in_rd (by decide) rfl wd_122 d_rd_firstInTime_37 ?_
      refine V_iload_n C d_rd_firstInTime_40 4 rfl ?_
      refine V_bipush C d_rd_firstInTime_41 (by decide) ?_
      refine V_imul C d_rd_firstInTime_43 ?_
      refine V_iload C d_rd_firstInTime_44 0 rfl ?_
      refine V_iadd C d_rd_firstInTime_46 ?_
      refine V_iald C 20 (P * 7 + i) (by decide) rfl (by omega) (by omega) (by decide) d_rd_firstInTime_47 ?_
      have q1 := hL (P * 7 + i) (by omega)
      have q2 := h16 (p0 * 8 + i) (by omega)
      refine V_cmpgt C 54 d_rd_firstInTime_48 (by decide) ⟨by omega, by omega⟩ ⟨by omega, by omega⟩ (fun g1 => ?_) (fun g1 => ?_)
      · refine V_iinc (lv' := [(4, _), (0, _), (1, _), (2, _), (3, _)]) C d_rd_firstInTime_54 0 rfl (by decide) rfl ?_
        refine V_goto C 3 d_rd_firstInTime_57 (by decide) ?_
        refine V_sub (lv' := [(4, _), (0, _), (1, _), (2, _), (3, _)]) [0, 1, 2, 3, 4] rfl ?_
        exact ihi hin (fsF_miss hno (by unfold fiF; intro z; simp only [Bool.and_eq_true, decide_eq_true_eq] at z; first | exact hb z.1 | (have z2 := z.2; unfold wyS at z2; omega)))
      · refine V_iload C d_rd_firstInTime_51 0 rfl ?_
        exact V_iret C hr d_rd_firstInTime_53 (by unfold fiR; rw [fsF_hit hno hin (by unfold fiF; rw [hb, Bool.true_and]; exact decide_eq_true g1)]) rfl

set_option maxRecDepth 20000 in
set_option maxHeartbeats 4000000 in
theorem c_fd_note (l : Launch) (w : zW) (σ : Nat → Nat → Int) (v s : Nat) (b : Int) (hv : v < 3) (hs : s < 7) (hl : bd σ 29 3 0 7) : zMv l w LL CC g_fd_note rm_fd_note [.ref (w.1 25), .int (zI ((v : Int))), .int (zI ((s : Int))), .int (zI (b))] σ (ntF σ v s b) := by
  refine zMv.of g_fd_note (by decide +kernel) (Nat.le_of_ble_eq_true rfl) rfl ?_
  intro p e u m args below meth c C hr
  have C : zC p u m args meth c prog_2_method_5_code 5 "RoundPlans$Found" w LL CC := C
  have hr : meth.sig.returnType = none := hr
  show V p l e rm_fd_note u m args below meth c 5 w LL CC 0 0 (MQ below (zQv w LL CC (ntF σ v s b) u.heap.size) args u 0 0 (zA w LL.1 u.heap.size)) 0 [(0, .ref (w.1 25)), (1, .int (zI ((v : Int)))), (2, .int (zI ((s : Int)))), (3, .int (zI (b)))] [] σ
  refine V_aload_n C d_fd_note_0 0 rfl ?_
  refine V_getr C 25 6 29 (by decide) rfl rfl in_fd (by decide) rfl wd_171 d_fd_note_1 ?_
  refine V_iload_n C d_fd_note_4 1 rfl ?_
  refine V_iald C 29 _ (by decide) rfl rfl (by omega) (by decide) d_fd_note_5 ?_
  have q := hl v hv
  refine V_istore (lv' := [(4, _), (0, _), (1, _), (2, _), (3, _)]) C d_fd_note_6 (by decide) rfl ?_
  refine V_iload C d_fd_note_8 0 rfl ?_
  refine V_bipush C d_fd_note_10 (by decide) ?_
  refine V_cmplt C 16 d_fd_note_12 (by decide) ⟨by omega, by omega⟩ ⟨by omega, by omega⟩ (fun g1 => ?_) (fun g1 => ?_)
  · refine V_aload_n C d_fd_note_16 1 rfl ?_
    refine V_getr C 25 5 28 (by decide) rfl rfl in_fd (by decide) rfl wd_169 d_fd_note_17 ?_
    refine V_iload_n C d_fd_note_20 2 rfl ?_
    refine V_bipush C d_fd_note_21 (by decide) ?_
    refine V_imul C d_fd_note_23 ?_
    refine V_iload C d_fd_note_24 0 rfl ?_
    refine V_iadd C d_fd_note_26 ?_
    refine V_iload_n C d_fd_note_27 3 rfl ?_
    refine V_iast C 28 (v * 7 + (σ 29 v).toNat) (by decide) rfl (by omega) (by omega) (by decide) d_fd_note_28 ?_
    refine V_aload_n C d_fd_note_29 1 rfl ?_
    refine V_getr C 25 6 29 (by decide) rfl rfl in_fd (by decide) rfl wd_171 d_fd_note_30 ?_
    refine V_iload_n C d_fd_note_33 2 rfl ?_
    refine V_iload C d_fd_note_34 0 rfl ?_
    refine V_iconst C d_fd_note_36 ?_
    refine V_iadd C d_fd_note_37 ?_
    refine V_iast C 29 _ (by decide) rfl rfl (by omega) (by decide) d_fd_note_38 ?_
    refine V_aload_n C d_fd_note_39 1 rfl ?_
    refine V_getr C 25 4 27 (by decide) rfl rfl in_fd (by decide) rfl wd_167 d_fd_note_40 ?_
    refine V_iload_n C d_fd_note_43 3 rfl ?_
    refine V_iload_n C d_fd_note_44 4 rfl ?_
    refine V_iast C 27 _ (by decide) rfl rfl (by omega) (by decide) d_fd_note_45 ?_
    exact V_vret C hr d_fd_note_46 (by unfold ntF; rw [if_neg (by omega)])
  · exact V_vret C hr d_fd_note_15 (by unfold ntF; rw [if_pos (by omega)])

set_option maxRecDepth 20000 in
set_option maxHeartbeats 4000000 in
theorem c_rd_drive (l : Launch) (w : zW) (σ : Nat → Nat → Int) (n nv : Nat) (hT : tI σ n nv) (hL : bd σ 20 896 (-1) 86399) (v S : Nat) (hv0 : v < 3) (hS : S < 128) (h18 : bd σ 18 384 0 1073741824) (h29 : bd σ 29 3 0 7) : zMv l w LL CC g_rd_drive rm_rd_drive [.ref (w.1 17), .int (zI ((v : Int))), .int (zI ((S : Int))), .ref (w.1 25)] σ (dvF n v 7 7 (σ 13 v) S (ltO σ n S (σ 18 (v * 128 + S)) S)) := by
  refine zMv.of g_rd_drive (by decide +kernel) (Nat.le_of_ble_eq_true rfl) rfl ?_
  intro p e u m args below meth c C hr
  have C : zC p u m args meth c prog_4_method_7_code 9 "RoundPlans$Rounds" w LL CC := C
  have hr : meth.sig.returnType = none := hr
  obtain ⟨hn, hn7, hv, hv3, h2, h3, h4, h5, h6, h7, h8, h9, h10, h11, h12, h13, h14, h15, h16⟩ := id hT
  show V p l e rm_rd_drive u m args below meth c 9 w LL CC 0 0 (MQ below (zQv w LL CC (dvF n v 7 7 (σ 13 v) S (ltO σ n S (σ 18 (v * 128 + S)) S)) u.heap.size) args u 0 0 (zA w LL.1 u.heap.size)) 0 [(0, .ref (w.1 17)), (1, .int (zI ((v : Int)))), (2, .int (zI ((S : Int)))), (3, .ref (w.1 25))] [] σ
  refine V_aload_n C d_rd_drive_0 0 rfl ?_
  refine V_iload_n C d_rd_drive_1 2 rfl ?_
  refine V_aload_n C d_rd_drive_2 0 rfl ?_
  refine V_iload_n C d_rd_drive_3 1 rfl ?_
  refine V_iload_n C d_rd_drive_4 2 rfl ?_
  refine V_callVi C 17 (by decide) rfl rfl (c_rd_firstBack l w σ v S hv0 hS) wd_392 wd_347 wd_348 wd_4 wd_349 o_rd_firstBack ⟨rfl, rfl, Nat.le_of_ble_eq_true rfl, Nat.le_of_ble_eq_true rfl⟩ rfl rfl (Nat.le_of_ble_eq_true rfl) d_rd_drive_5 ⟨Nat.zero_le _, Nat.zero_le _⟩ ?_
  refine V_callVv C 17 (by decide) rfl rfl (c_rd_findLatest l w σ n nv hT hL S (σ 18 (v * 128 + S)) hS (h18 (v * 128 + S) (by omega))) wd_393 wd_395 ws_8 wd_4 wd_396 o_rd_findLatest ⟨rfl, rfl, Nat.le_of_ble_eq_true rfl, Nat.le_of_ble_eq_true rfl⟩ rfl rfl (Nat.le_of_ble_eq_true rfl) d_rd_drive_8 ⟨Nat.zero_le _, Nat.zero_le _⟩ ?_
  refine V_bipush C d_rd_drive_11 (by decide) ?_
  refine V_istore (lv' := [(4, _), (0, _), (1, _), (2, _), (3, _)]) C d_rd_drive_13 (by decide) rfl ?_
  refine V_aload_n C d_rd_drive_15 1 rfl ?_
  refine V_getr C 17 0 1 (by decide) rfl rfl in_rd (by decide) rfl wd_119 d_rd_drive_16 ?_
  refine V_getr C 1 13 13 (by decide) rfl rfl in_td (by decide) rfl wd_69 d_rd_drive_19 ?_
  refine V_iload_n C d_rd_drive_22 2 rfl ?_
  refine V_iald C 13 _ (by decide) rfl rfl (by omega) (by decide) d_rd_drive_23 ?_
  refine V_ti (b := σ 13 v) (by rw [ltO_ne (by decide)]) ?_
  refine V_istore (lv' := [(5, _), (4, _), (0, _), (1, _), (2, _), (3, _)]) C d_rd_drive_24 (by decide) rfl ?_
  refine V_iload_n C d_rd_drive_26 4 rfl ?_
  refine V_istore (lv' := [(6, _), (5, _), (4, _), (0, _), (1, _), (2, _), (3, _)]) C d_rd_drive_27 (by decide) rfl ?_
  refine V_iconst C d_rd_drive_29 ?_
  refine V_istore (lv' := [(7, _), (6, _), (5, _), (4, _), (0, _), (1, _), (2, _), (3, _)]) C d_rd_drive_30 (by decide) rfl ?_
  refine V_sub (lv' := [(7, _), (6, _), (5, _), (4, _), (0, _), (1, _), (2, _), (3, _)]) [0, 1, 2, 3, 4, 5, 6, 7] rfl ?_
  refine Nat.strongRecOn (motive := fun f => ∀ (k p0 : Nat) (t : Int) (P : Nat) (τ : Nat → Nat → Int), k + f = 7 → p0 < 8 → 0 ≤ t ∧ t ≤ 100000 → P < 128 → (∀ h, h ≤ 20 → τ h = ltO σ n S (σ 18 (v * 128 + S)) S h) → bd τ 29 3 0 7 → dvF n v f p0 t P τ = dvF n v 7 7 (σ 13 v) S (ltO σ n S (σ 18 (v * 128 + S)) S) → V p l e rm_rd_drive u m args below meth c 9 w LL CC 0 0 (MQ below (zQv w LL CC (dvF n v 7 7 (σ 13 v) S (ltO σ n S (σ 18 (v * 128 + S)) S)) u.heap.size) args u 0 0 (zA w LL.1 u.heap.size)) 32 [(7, .int (zI (k : Int))), (6, .int (zI (P : Int))), (5, .int (zI t)), (4, .int (zI (p0 : Int))), (0, .ref (w.1 17)), (1, .int (zI (v : Int))), (2, .int (zI (S : Int))), (3, .ref (w.1 25))] [] τ) 7 (fun f ihf => ?_) 0 7 (σ 13 v) S _ rfl (by decide) (by have := h13 v hv0; omega) hS (fun _ _ => rfl) (by intro i hi; rw [ltO_ne (by decide)]; exact h29 i hi) rfl
  intro k p0 t P τ hk hp0 ht hP hτ hl hE
  have hTτ : tI τ n nv := hT.congr (fun h hh => by rw [hτ h (by omega), ltO_ne (by omega)])
  have hLτ : bd τ 20 896 (-1) 86399 := by intro i hi; rw [hτ 20 (by decide)]; exact ltO_bd hT hL S i hi
  show V p l e rm_rd_drive u m args below meth c 9 w LL CC 0 0 (MQ below (zQv w LL CC (dvF n v 7 7 (σ 13 v) S (ltO σ n S (σ 18 (v * 128 + S)) S)) u.heap.size) args u 0 0 (zA w LL.1 u.heap.size)) 32 [(7, .int (zI (k : Int))), (6, .int (zI (P : Int))), (5, .int (zI t)), (4, .int (zI (p0 : Int))), (0, .ref (w.1 17)), (1, .int (zI (v : Int))), (2, .int (zI (S : Int))), (3, .ref (w.1 25))] [] τ
  refine V_iload C d_rd_drive_32 0 rfl ?_
  refine V_bipush C d_rd_drive_34 (by decide) ?_
  refine V_cmpge C 135 d_rd_drive_36 (by decide) ⟨by omega, by omega⟩ ⟨by omega, by omega⟩ (fun g7 => ?_) (fun g7 => ?_)
  · have hf0 : f = 0 := by omega
    subst hf0
    refine V_aload_n C d_rd_drive_135 7 rfl ?_
    refine V_getr C 25 7 30 (by decide) rfl rfl in_fd (by decide) rfl wd_174 d_rd_drive_136 ?_
    refine V_iload_n C d_rd_drive_139 5 rfl ?_
    refine V_iload C d_rd_drive_140 2 rfl ?_
    refine V_aload_n C d_rd_drive_142 4 rfl ?_
    refine V_getr C 17 0 1 (by decide) rfl rfl in_rd (by decide) rfl wd_119 d_rd_drive_143 ?_
    refine V_iload C d_rd_drive_146 3 rfl ?_
    refine V_bipush C d_rd_drive_148 (by decide) ?_
    refine V_callVi C 1 (by decide) rfl rfl (c_td_seconds l w τ p0 7 hp0 (by omega)) wd_315 wd_316 wd_317 wd_2 wd_318 o_td_seconds ⟨rfl, rfl, Nat.le_of_ble_eq_true rfl, Nat.le_of_ble_eq_true rfl⟩ rfl rfl (Nat.le_of_ble_eq_true rfl) d_rd_drive_150 ⟨Nat.zero_le _, Nat.zero_le _⟩ ?_
    refine V_ti (b := wyS τ p0 7) rfl ?_
    refine V_iadd C d_rd_drive_153 ?_
    refine V_iast C 30 _ (by decide) rfl rfl (by omega) (by decide) d_rd_drive_154 ?_
    exact V_vret C hr d_rd_drive_155 (by rw [← hE]; first | (rw [dvF, if_pos hP0]) | (rw [dvF]))
  · obtain ⟨f, rfl⟩ : ∃ f1, f = f1 + 1 := ⟨f - 1, by omega⟩
    refine V_iload C d_rd_drive_39 1 rfl ?_
    refine V_ifeq C 135 d_rd_drive_41 (by decide) ⟨by omega, by omega⟩ (fun g0 => ?_) (fun g0 => ?_)
    · have hP0 : P = 0 := by omega
      refine V_aload_n C d_rd_drive_135 7 rfl ?_
      refine V_getr C 25 7 30 (by decide) rfl rfl in_fd (by decide) rfl wd_174 d_rd_drive_136 ?_
      refine V_iload_n C d_rd_drive_139 5 rfl ?_
      refine V_iload C d_rd_drive_140 2 rfl ?_
      refine V_aload_n C d_rd_drive_142 4 rfl ?_
      refine V_getr C 17 0 1 (by decide) rfl rfl in_rd (by decide) rfl wd_119 d_rd_drive_143 ?_
      refine V_iload C d_rd_drive_146 3 rfl ?_
      refine V_bipush C d_rd_drive_148 (by decide) ?_
      refine V_callVi C 1 (by decide) rfl rfl (c_td_seconds l w τ p0 7 hp0 (by omega)) wd_315 wd_316 wd_317 wd_2 wd_318 o_td_seconds ⟨rfl, rfl, Nat.le_of_ble_eq_true rfl, Nat.le_of_ble_eq_true rfl⟩ rfl rfl (Nat.le_of_ble_eq_true rfl) d_rd_drive_150 ⟨Nat.zero_le _, Nat.zero_le _⟩ ?_
      refine V_ti (b := wyS τ p0 7) rfl ?_
      refine V_iadd C d_rd_drive_153 ?_
      refine V_iast C 30 _ (by decide) rfl rfl (by omega) (by decide) d_rd_drive_154 ?_
      exact V_vret C hr d_rd_drive_155 (by rw [← hE]; first | (rw [dvF, if_pos hP0]) | (rw [dvF]))
    · have hP0 : ¬ P = 0 := by omega
      refine V_aload_n C d_rd_drive_44 4 rfl ?_
      refine V_iload C d_rd_drive_45 3 rfl ?_
      refine V_iload C d_rd_drive_47 2 rfl ?_
      refine V_iload C d_rd_drive_49 1 rfl ?_
      refine V_callVi C 17 (by decide) rfl rfl (c_rd_firstInTime l w τ n nv hTτ hLτ p0 t P hp0 ht hP) wd_401 wd_403 ws_10 wd_4 wd_404 o_rd_firstInTime ⟨rfl, rfl, Nat.le_of_ble_eq_true rfl, Nat.le_of_ble_eq_true rfl⟩ rfl rfl (Nat.le_of_ble_eq_true rfl) d_rd_drive_51 ⟨Nat.zero_le _, Nat.zero_le _⟩ ?_
      refine V_istore (lv' := [(8, _), (7, _), (6, _), (5, _), (4, _), (0, _), (1, _), (2, _), (3, _)]) C d_rd_drive_54 (by decide) rfl ?_
      refine V_iload C d_rd_drive_56 0 rfl ?_
      refine V_iconst C d_rd_drive_58 ?_
      refine V_cmpne C 63 d_rd_drive_59 (by decide) (fiR_rI hn7) ⟨by omega, by omega⟩ (fun gN => ?_) (fun gN => ?_)
      · obtain ⟨s, hs⟩ := fiR_some gN
        obtain ⟨hsn, hsb, hle⟩ := fi_ok hs
        have q20 := hLτ (P * 7 + s) (by omega)
        have q16 : 0 ≤ wyS τ p0 s ∧ wyS τ p0 s ≤ 50000 := by unfold wyS; rw [hτ 16 (by decide), ltO_ne (by decide)]; exact h16 _ (by omega)
        have q3 : 0 ≤ τ 3 s ∧ τ 3 s ≤ 86399 := by rw [hτ 3 (by decide), ltO_ne (by decide)]; exact h3 s (by omega)
        have q5 : 0 ≤ τ 5 s ∧ τ 5 s ≤ 10000 := by rw [hτ 5 (by decide), ltO_ne (by decide)]; exact h5 s (by omega)
        rw [show fiR τ n p0 t P = (s : Int) by unfold fiR; rw [hs]]
        refine V_iload C d_rd_drive_63 3 rfl ?_
        refine V_aload_n C d_rd_drive_65 5 rfl ?_
        refine V_getr C 17 0 1 (by decide) rfl rfl in_rd (by decide) rfl wd_119 d_rd_drive_66 ?_
        refine V_iload C d_rd_drive_69 4 rfl ?_
        refine V_iload C d_rd_drive_71 0 rfl ?_
        refine V_callVi C 1 (by decide) rfl rfl (c_td_seconds l w τ p0 s hp0 (by omega)) wd_315 wd_316 wd_317 wd_2 wd_318 o_td_seconds ⟨rfl, rfl, Nat.le_of_ble_eq_true rfl, Nat.le_of_ble_eq_true rfl⟩ rfl rfl (Nat.le_of_ble_eq_true rfl) d_rd_drive_73 ⟨Nat.zero_le _, Nat.zero_le _⟩ ?_
        refine V_ti (b := wyS τ p0 s) rfl ?_
        refine V_iadd C d_rd_drive_76 ?_
        refine V_aload_n C d_rd_drive_77 5 rfl ?_
        refine V_getr C 17 0 1 (by decide) rfl rfl in_rd (by decide) rfl wd_119 d_rd_drive_78 ?_
        refine V_getr C 1 3 3 (by decide) rfl rfl in_td (by decide) rfl wd_43 d_rd_drive_81 ?_
        refine V_iload C d_rd_drive_84 0 rfl ?_
        refine V_iald C 3 _ (by decide) rfl rfl (by omega) (by decide) d_rd_drive_86 ?_
        refine V_imax C wd_322 wd_323 wd_8 wd_324 (Nat.le_of_ble_eq_true rfl) (Nat.le_of_ble_eq_true rfl) (Nat.zero_le _) (Nat.zero_le _) ⟨by omega, by omega⟩ ⟨by omega, by omega⟩ d_rd_drive_87 ?_
        refine V_istore (lv' := [(5, _), (8, _), (7, _), (6, _), (4, _), (0, _), (1, _), (2, _), (3, _)]) C d_rd_drive_90 (by decide) rfl ?_
        refine V_aload_n C d_rd_drive_92 8 rfl ?_
        refine V_iload_n C d_rd_drive_93 6 rfl ?_
        refine V_iload C d_rd_drive_94 1 rfl ?_
        refine V_iload C d_rd_drive_96 0 rfl ?_
        refine V_callVv C 25 (by decide) rfl rfl (c_fd_note l w τ v s (max (t + wyS τ p0 s) (τ 3 s)) hv0 (by omega) hl) wd_405 wd_406 wd_407 wd_6 wd_408 o_fd_note ⟨rfl, rfl, Nat.le_of_ble_eq_true rfl, Nat.le_of_ble_eq_true rfl⟩ rfl rfl (Nat.le_of_ble_eq_true rfl) d_rd_drive_98 ⟨Nat.zero_le _, Nat.zero_le _⟩ ?_
        refine V_iload C d_rd_drive_101 0 rfl ?_
        refine V_aload_n C d_rd_drive_103 5 rfl ?_
        refine V_getr C 17 0 1 (by decide) rfl rfl in_rd (by decide) rfl wd_119 d_rd_drive_104 ?_
        refine V_getr C 1 5 5 (by decide) rfl rfl in_td (by decide) rfl wd_49 d_rd_drive_107 ?_
        refine V_iload C d_rd_drive_110 1 rfl ?_
        refine V_iald C 5 _ (by decide) rfl rfl (by omega) (by decide) d_rd_drive_112 ?_
        refine V_ti (b := τ 5 s) (by rw [ntF_ne (by decide) (by decide) (by decide)]) ?_
        refine V_iadd C d_rd_drive_113 ?_
        refine V_istore (lv' := [(5, _), (8, _), (7, _), (6, _), (4, _), (0, _), (1, _), (2, _), (3, _)]) C d_rd_drive_114 (by decide) rfl ?_
        refine V_iload C d_rd_drive_116 1 rfl ?_
        refine V_istore (lv' := [(4, _), (5, _), (8, _), (7, _), (6, _), (0, _), (1, _), (2, _), (3, _)]) C d_rd_drive_118 (by decide) rfl ?_
        refine V_iload C d_rd_drive_120 4 rfl ?_
        refine V_iload C d_rd_drive_122 2 rfl ?_
        refine V_callNi C (c_rp_without l w _ P s hP (by omega)) ns_5 wd_278 wd_1 wd_279 o_rp_without ⟨rfl, rfl, Nat.le_of_ble_eq_true rfl, Nat.le_of_ble_eq_true rfl⟩ rfl rfl (Nat.le_of_ble_eq_true rfl) d_rd_drive_124 ⟨Nat.zero_le _, Nat.zero_le _⟩ ?_
        refine V_istore (lv' := [(6, _), (4, _), (5, _), (8, _), (7, _), (0, _), (1, _), (2, _), (3, _)]) C d_rd_drive_127 (by decide) rfl ?_
        refine V_iinc (lv' := [(7, _), (6, _), (4, _), (5, _), (8, _), (0, _), (1, _), (2, _), (3, _)]) C d_rd_drive_129 4 rfl (by decide) rfl ?_
        refine V_goto C 32 d_rd_drive_132 (by decide) ?_
        refine V_sub (lv' := [(7, _), (6, _), (5, _), (4, _), (0, _), (1, _), (2, _), (3, _)]) [0, 1, 3, 2, 5, 6, 7, 8] rfl ?_
        refine ihf f (by omega) (k + 1) s _ (wo P s) (ntF τ v s (max (t + wyS τ p0 s) (τ 3 s))) (by omega) (by omega) ⟨by omega, by omega⟩ (wo_128 hP (by omega)) (fun h hh => by rw [ntF_ne (by omega) (by omega) (by omega)]; exact hτ h hh) (ntF_29 hl) ?_
        rw [← hE, dvF, if_neg hP0, hs]
      · have hno := fiR_none gN
        exact V_vret C hr d_rd_drive_62 (by rw [← hE, dvF, if_neg hP0, hno])
end
section
/-! LONGS: shifts -/
theorem zLk : ∀ k, k < 64 → (((zI ((k : Nat) : Int)).toInt64 &&& 63).toBitVec.smod 64).toNat = k := by decide +kernel
theorem zL_tp : ∀ k, k < 64 → BitVec.twoPow 64 k = BitVec.ofInt 64 (2 ^ k) := by decide +kernel
theorem zL_shl (a : Int) {k : Nat} (hk : k < 64) : zL a <<< ((zI (k : Int)).toInt64 &&& 63) = zL (a * 2 ^ k) := by
  apply Int64.toBitVec.inj
  show (zL a).toBitVec <<< (((zI (k : Int)).toInt64 &&& 63).toBitVec.smod 64).toNat = _
  rw [zLk k hk, BitVec.shiftLeft_eq_mul_twoPow, zL_tp k hk]
  show BitVec.ofInt 64 a * BitVec.ofInt 64 (2 ^ k) = BitVec.ofInt 64 (a * 2 ^ k)
  rw [BitVec.ofInt_mul]
theorem zL_shr {p k : Nat} (hp : p < 2 ^ 63) (hk : k < 64) : zL (p : Int) >>> ((zI (k : Int)).toInt64 &&& 63) = zL ((p / 2 ^ k : Nat) : Int) := by
  have h2 : p / 2 ^ k ≤ p := Nat.div_le_self _ _
  generalize hq : p / 2 ^ k = q at h2 ⊢
  apply Int64.toInt_inj.mp
  show ((zL (p : Int)).toBitVec.sshiftRight (((zI (k : Int)).toInt64 &&& 63).toBitVec.smod 64).toNat).toInt = _
  rw [zLk k hk, BitVec.toInt_sshiftRight]
  show (zL (p : Int)).toInt >>> k = _
  rw [zL_toInt ⟨by omega, by omega⟩, zL_toInt ⟨by omega, by omega⟩, Int.shiftRight_eq_div_pow, ← hq]
  rfl
/-! PLANS: the class's tables of prices -/
def pnG (σ : Nat → Nat → Int) (S : Nat) : Nat → Int
  | 0 => 0
  | i + 1 => if S.testBit i = true then pnG σ S i + σ 6 i else pnG σ S i
def coG (S : Nat) : Nat → Nat
  | 0 => 0
  | i + 1 => if S.testBit i = true then coG S i + 2 ^ (2 * (6 - i)) else coG S i
theorem pnG_t {σ : Nat → Nat → Int} {S i : Nat} (h : S.testBit i = true) : pnG σ S (i + 1) = pnG σ S i + σ 6 i := by rw [pnG, if_pos h]
theorem pnG_f {σ : Nat → Nat → Int} {S i : Nat} (h : ¬ S.testBit i = true) : pnG σ S (i + 1) = pnG σ S i := by rw [pnG, if_neg h]
theorem coG_t {S i : Nat} (h : S.testBit i = true) : coG S (i + 1) = coG S i + 2 ^ (2 * (6 - i)) := by rw [coG, if_pos h]
theorem coG_f {S i : Nat} (h : ¬ S.testBit i = true) : coG S (i + 1) = coG S i := by rw [coG, if_neg h]
theorem pnG_bd {σ : Nat → Nat → Int} {S : Nat} (h : bd σ 6 7 0 1000000000) : ∀ i, i ≤ 7 → 0 ≤ pnG σ S i ∧ pnG σ S i ≤ 1000000000 * i
  | 0, _ => ⟨Int.le_refl 0, Int.le_refl 0⟩
  | i + 1, hi => by
    have ih := pnG_bd (S := S) h i (by omega)
    have hy := h i (by omega)
    unfold pnG
    split <;> omega
theorem p2_le {i : Nat} : 2 ^ (2 * (6 - i)) ≤ 4096 := Nat.le_trans (Nat.pow_le_pow_right (by decide) (show 2 * (6 - i) ≤ 12 by omega)) (by decide)
theorem coG_bd {S : Nat} : ∀ i, coG S i ≤ 4096 * i
  | 0 => Nat.le_refl 0
  | i + 1 => by
    have ih := coG_bd (S := S) i
    have := p2_le (i := i)
    unfold coG
    split <;> omega
def fpr (σ : Nat → Nat → Int) (n v S : Nat) : Int := if σ 18 (v * 128 + S) = 1073741824 then 1152921504606846976 else σ 15 v * (σ 18 (v * 128 + S) - σ 13 v) * 2 ^ 14 + (v : Int) * (coG S n : Nat)
theorem fpr_bd {σ : Nat → Nat → Int} {n nv v S : Nat} (hT : tI σ n nv) (h18 : bd σ 18 384 0 1073741824) (hv : v < 3) (hS : S < 128) : -1125899906842624 ≤ fpr σ n v S ∧ fpr σ n v S ≤ 1152921504606846976 := by
  obtain ⟨-, hn7, -, -, -, -, -, -, -, -, -, -, -, -, -, h13, -, h15, -⟩ := hT
  have a := h18 (v * 128 + S) (by omega)
  have b := h13 v hv
  have c := h15 v hv
  have d := coG_bd (S := S) n
  have hm : -86399000 ≤ σ 15 v * (σ 18 (v * 128 + S) - σ 13 v) ∧ σ 15 v * (σ 18 (v * 128 + S) - σ 13 v) ≤ 1073741824000 := by
    have e1 := Int.mul_le_mul_of_nonneg_left (show σ 18 (v * 128 + S) - σ 13 v ≤ 1073741824 by omega) c.1
    have e2 := Int.mul_le_mul_of_nonneg_left (show -86399 ≤ σ 18 (v * 128 + S) - σ 13 v by omega) c.1
    generalize σ 15 v * (σ 18 (v * 128 + S) - σ 13 v) = z at e1 e2 ⊢
    omega
  unfold fpr
  generalize σ 15 v * (σ 18 (v * 128 + S) - σ 13 v) = z at hm ⊢
  split
  · omega
  · have hc : (v : Int) * (coG S n : Nat) ≤ 2 * 28672 ∧ 0 ≤ (v : Int) * (coG S n : Nat) := by
      rcases (show v = 0 ∨ v = 1 ∨ v = 2 by omega) with rfl | rfl | rfl <;> omega
    omega
/-- findPrices: one set's prices, vehicle by vehicle; the sets 1 .. j -/
def fpI (σ : Nat → Nat → Int) (n S : Nat) : Nat → Nat → Nat → Int
  | 0 => σ
  | x + 1 => zU (fpI σ n S x) 22 (x * 128 + S) (fpr σ n x S)
def fsk (σ : Nat → Nat → Int) (n S : Nat) : Int := pnG σ S n * 2 ^ 14 + 3 * (coG S n : Nat)
def fpO (σ : Nat → Nat → Int) (n nv : Nat) : Nat → Nat → Nat → Int
  | 0 => σ
  | j + 1 => fpI (zU (fpO σ n nv j) 23 (j + 1) (fsk σ n (j + 1))) n (j + 1) nv
theorem fpI_ne {σ : Nat → Nat → Int} {n S k : Nat} (hk : k ≠ 22) : ∀ x, fpI σ n S x k = σ k
  | 0 => rfl
  | x + 1 => by unfold fpI; rw [zU_ne hk, fpI_ne hk x]
theorem fpO_ne {σ : Nat → Nat → Int} {n nv k : Nat} (h1 : k ≠ 22) (h2 : k ≠ 23) : ∀ j, fpO σ n nv j k = σ k
  | 0 => rfl
  | j + 1 => by unfold fpO; rw [fpI_ne h1, zU_ne h2, fpO_ne h1 h2 j]
theorem pnG_congr {σ σ' : Nat → Nat → Int} {S : Nat} (h : σ' 6 = σ 6) : ∀ i, pnG σ' S i = pnG σ S i
  | 0 => rfl
  | i + 1 => by unfold pnG; rw [pnG_congr h i, h]
theorem fsk_congr {σ σ' : Nat → Nat → Int} {n S : Nat} (h : σ' 6 = σ 6) : fsk σ' n S = fsk σ n S := by unfold fsk; rw [pnG_congr h]
theorem fpr_congr {σ σ' : Nat → Nat → Int} {n v S : Nat} (h1 : σ' 18 = σ 18) (h2 : σ' 15 = σ 15) (h3 : σ' 13 = σ 13) : fpr σ' n v S = fpr σ n v S := by unfold fpr; rw [h1, h2, h3]
theorem fsk_bd {σ : Nat → Nat → Int} {n nv S : Nat} (hT : tI σ n nv) : 0 ≤ fsk σ n S ∧ fsk σ n S ≤ 1125899906842624 := by
  have h1 := pnG_bd (S := S) hT.2.2.2.2.2.2.2.2.1 n hT.2.1
  have h2 := coG_bd (S := S) n
  have h3 := hT.2.1
  unfold fsk
  omega
theorem fpI_bd {σ : Nat → Nat → Int} {n nv S : Nat} (hT : tI σ n nv) (h18 : bd σ 18 384 0 1073741824) (h22 : bd σ 22 384 (-1125899906842624) 1152921504606846976) (hS : S < 128) : ∀ x, x ≤ 3 → bd (fpI σ n S x) 22 384 (-1125899906842624) 1152921504606846976
  | 0, _ => h22
  | x + 1, hx => by
    intro i hi
    have ih := fpI_bd hT h18 h22 hS x (by omega) i hi
    unfold fpI
    by_cases e : i = x * 128 + S
    · subst e; rw [zU_self]; exact fpr_bd hT h18 (by omega) hS
    · rw [zU_nj e]; exact ih
theorem fpO_22 {σ : Nat → Nat → Int} {n nv : Nat} (hT : tI σ n nv) (h18 : bd σ 18 384 0 1073741824) (h22 : bd σ 22 384 (-1125899906842624) 1152921504606846976) : ∀ j, j < 128 → bd (fpO σ n nv j) 22 384 (-1125899906842624) 1152921504606846976
  | 0, _ => h22
  | j + 1, hj => by
    have ih := fpO_22 hT h18 h22 j (by omega)
    unfold fpO
    refine fpI_bd (nv := nv) (hT.congr (fun k hk => ?_)) ?_ ?_ hj nv hT.2.2.2.1
    · rw [zU_ne (by omega), fpO_ne (by omega) (by omega)]
    · intro i hi; rw [zU_ne (by decide), fpO_ne (by decide) (by decide)]; exact h18 i hi
    · intro i hi; rw [zU_ne (by decide)]; exact ih i hi
theorem fpO_23 {σ : Nat → Nat → Int} {n nv : Nat} (hT : tI σ n nv) (h23 : bd σ 23 128 0 1125899906842624) : ∀ j, bd (fpO σ n nv j) 23 128 0 1125899906842624
  | 0 => h23
  | j + 1 => by
    intro i hi
    have ih := fpO_23 hT h23 j i hi
    unfold fpO
    rw [fpI_ne (by decide)]
    by_cases e : i = j + 1
    · subst e; rw [zU_self]; exact fsk_bd hT
    · rw [zU_nj e]; exact ih
/-- cheapest: the least prices, vehicle by vehicle -/
def lwG (σ : Nat → Nat → Int) (v S : Nat) : Int := lwF S (fun P => σ 22 (v * 128 + P)) (σ 24) S S (σ 24 S)
def arS (σ : Nat → Nat → Int) (v a j : Nat) : Nat → Nat → Int := zUA σ 24 (fun S => if j < S ∧ S ≤ a then lwG σ v S else σ 24 S)
theorem lwF_congr {S : Nat} {pr g g' : Nat → Int} (h : ∀ x, x < S → g x = g' x) : ∀ (k Q : Nat) (x : Int), Q ≤ S → lwF S pr g k Q x = lwF S pr g' k Q x
  | 0, _, _, _ => rfl
  | k + 1, Q, x, hQ => by
    unfold lwF
    by_cases h0 : Q = 0
    · rw [if_pos h0, if_pos h0]
    · rw [if_neg h0, if_neg h0, h (S - Q) (by omega)]
      exact lwF_congr h k _ _ (Nat.and_le_right)
theorem arS_lw {σ : Nat → Nat → Int} {v a j : Nat} (hj : j ≤ a) : lwG (arS σ v a j) v j = lwG σ v j := by
  unfold lwG arS
  rw [zUA_ne (by decide), zUA_self]
  rw [lwF_congr (g' := σ 24) (fun x hx => if_neg (by omega)) j j _ (Nat.le_refl j), if_neg (by omega)]
theorem arS_step {σ : Nat → Nat → Int} {v a j : Nat} (hj : j + 1 ≤ a) : zU (arS σ v a (j + 1)) 24 (j + 1) (lwG σ v (j + 1)) = arS σ v a j := by
  funext k i
  by_cases hk : k = 24
  · subst hk
    by_cases hi : i = j + 1
    · subst hi
      rw [zU_self]
      unfold arS
      rw [zUA_self, if_pos ⟨by omega, hj⟩]
    · rw [zU_nj hi]
      unfold arS
      rw [zUA_self, zUA_self]
      by_cases h : j + 1 < i ∧ i ≤ a
      · rw [if_pos h, if_pos ⟨by omega, h.2⟩]
      · rw [if_neg h, if_neg (by omega)]
  · rw [zU_ne hk]
    unfold arS
    rw [zUA_ne hk, zUA_ne hk]
theorem arS_top {σ : Nat → Nat → Int} {v a : Nat} : arS σ v a a = σ := by
  funext k i
  unfold arS
  by_cases hk : k = 24
  · subst hk; rw [zUA_self, if_neg (by omega)]
  · rw [zUA_ne hk]
def cp0 (σ : Nat → Nat → Int) : Nat → Nat → Int := zUA σ 24 (fun j => if j < 128 then σ 23 j else σ 24 j)
def chV (σ : Nat → Nat → Int) (a : Nat) (r : Int) : Nat → Nat → Nat → Int
  | 0 => cp0 σ
  | v + 1 => if (v : Int) = r then chV σ a r v else arS (chV σ a r v) v a 0
theorem chV_ne {σ : Nat → Nat → Int} {a k : Nat} {r : Int} (hk : k ≠ 24) : ∀ v, chV σ a r v k = σ k
  | 0 => zUA_ne hk
  | v + 1 => by
    unfold chV
    split
    · exact chV_ne hk v
    · unfold arS; rw [zUA_ne hk, chV_ne hk v]
theorem lwF_lo {S : Nat} {pr g : Nat → Int} {lo x : Int} {k Q : Nat} (hQ : Q &&& S = Q) (hx : lo ≤ x) (h : ∀ P, P ≤ S → 0 < P → lo ≤ pr P + g (S - P)) : lo ≤ lwF S pr g k Q x := by
  rcases lwF_ex (S := S) (pr := pr) (g := g) k Q x hQ with e | ⟨P, p1, p2, e⟩
  · rw [e]; exact hx
  · rw [e]; exact h P (by rw [← p2]; exact Nat.and_le_right) p1
theorem chV_bd {σ : Nat → Nat → Int} {a : Nat} {r : Int} (ha : a < 128) (h22 : bd σ 22 384 (-1125899906842624) 1152921504606846976) (h23 : bd σ 23 128 0 1125899906842624) : ∀ v, v ≤ 3 → bd (chV σ a r v) 24 128 (-(1125899906842624 * v)) 1125899906842624
  | 0, _ => by
    intro i hi
    have h := h23 i hi
    unfold chV cp0
    rw [zUA_self, if_pos hi]
    omega
  | v + 1, hv => by
    intro i hi
    have ih := chV_bd (r := r) ha h22 h23 v (by omega)
    have ih0 := ih i hi
    unfold chV
    split
    · omega
    · unfold arS
      rw [zUA_self]
      split
      · rename_i h
        have hup : lwG (chV σ a r v) v i ≤ chV σ a r v 24 i := lwF_x _ _ _
        have hlo : -(1125899906842624 * ((v : Int) + 1)) ≤ lwG (chV σ a r v) v i := by
          refine lwF_lo (Nat.and_self i) (by omega) (fun P hP hP0 => ?_)
          have a1 := ih (i - P) (by omega)
          have a2 := h22 (v * 128 + P) (by omega)
          rw [chV_ne (by decide)]
          omega
        omega
      · omega
end
section
/-! Plans: the contracts -/
set_option maxRecDepth 20000 in
set_option maxHeartbeats 4000000 in
theorem c_pl_penaltiesOf (l : Launch) (w : zW) (σ : Nat → Nat → Int) (n nv : Nat) (hT : tI σ n nv) (S : Nat) (hS : S < 128) : zMl l w LL CC g_pl_penaltiesOf rm_pl_penaltiesOf [.ref (w.1 21), .int (zI ((S : Int)))] σ (pnG σ S n) (σ) := by
  refine zMl.of g_pl_penaltiesOf (by decide +kernel) (Nat.le_of_ble_eq_true rfl) rfl ?_
  intro p e u m args below meth c C hr
  have C : zC p u m args meth c prog_3_method_4_code 5 "RoundPlans$Plans" w LL CC := C
  have hr : meth.sig.returnType = (some .long) := hr
  obtain ⟨hn, hn7, hv, hv3, h2, h3, h4, h5, h6, h7, h8, h9, h10, h11, h12, h13, h14, h15, h16⟩ := id hT
  show V p l e rm_pl_penaltiesOf u m args below meth c 5 w LL CC 0 0 (MQ below (zQl w LL CC (pnG σ S n) (σ) u.heap.size) args u 0 0 (zA w LL.1 u.heap.size)) 0 [(0, .ref (w.1 21)), (1, .int (zI ((S : Int))))] [] σ
  refine V_lconst C 0 d_pl_penaltiesOf_0 rfl ?_
  refine V_lstore_n (lv' := [(2, _), (0, _), (1, _)]) C d_pl_penaltiesOf_1 (by decide) rfl ?_
  refine V_iconst C d_pl_penaltiesOf_2 ?_
  refine V_istore (lv' := [(4, _), (2, _), (0, _), (1, _)]) C d_pl_penaltiesOf_3 (by decide) rfl ?_
  refine V_sub (lv' := [(4, _), (2, _), (0, _), (1, _)]) [0, 1, 2, 3] rfl ?_
  refine loopUp (n := n) (P := fun i => V p l e rm_pl_penaltiesOf u m args below meth c 5 w LL CC 0 0 (MQ below (zQl w LL CC (pnG σ S n) (σ) u.heap.size) args u 0 0 (zA w LL.1 u.heap.size)) 5 [(4, .int (zI ((i : Int)))), (2, .long (zL (pnG σ S i))), (0, .ref (w.1 21)), (1, .int (zI ((S : Int))))] [] (σ)) (fun i hii ihi => ?_) 0 (Nat.zero_le _)
  show V p l e rm_pl_penaltiesOf u m args below meth c 5 w LL CC 0 0 (MQ below (zQl w LL CC (pnG σ S n) (σ) u.heap.size) args u 0 0 (zA w LL.1 u.heap.size)) 5 [(4, .int (zI ((i : Int)))), (2, .long (zL (pnG σ S i))), (0, .ref (w.1 21)), (1, .int (zI ((S : Int))))] [] (σ)
  refine V_iload C d_pl_penaltiesOf_5 0 rfl ?_
  refine V_aload_n C d_pl_penaltiesOf_7 2 rfl ?_
  refine V_getr C 21 0 1 (by decide) rfl rfl in_pl (by decide) rfl wd_138 d_pl_penaltiesOf_8 ?_
  refine V_geti C 1 0 (by decide) rfl rfl in_td (by decide) rfl wd_31 d_pl_penaltiesOf_11 ?_
  refine V_ti hn ?_
  refine V_cmpge C 45 d_pl_penaltiesOf_14 (by decide) ⟨by omega, by omega⟩ ⟨by omega, by omega⟩ (fun he => ?_) (fun he => ?_)
  · have hin : i = n := by omega
    subst hin
    refine V_lload_n C d_pl_penaltiesOf_45 1 rfl ?_
    exact V_lret C hr d_pl_penaltiesOf_46 rfl rfl
  · have hin : i < n := by omega
    refine V_iload_n C d_pl_penaltiesOf_17 3 rfl ?_
    refine V_iload C d_pl_penaltiesOf_18 0 rfl ?_
    refine V_callNi C (c_rp_holds l w σ S i hS (by omega)) ns_2 wd_285 wd_1 wd_286 o_rp_holds ⟨rfl, rfl, Nat.le_of_ble_eq_true rfl, Nat.le_of_ble_eq_true rfl⟩ rfl rfl (Nat.le_of_ble_eq_true rfl) d_pl_penaltiesOf_20 ⟨Nat.zero_le _, Nat.zero_le _⟩ ?_
    refine V_ifeqB C 39 d_pl_penaltiesOf_23 (by decide) (fun hb => ?_) (fun hb => ?_)
    · refine V_iinc (lv' := [(4, _), (2, _), (0, _), (1, _)]) C d_pl_penaltiesOf_39 0 rfl (by decide) rfl ?_
      refine V_goto C 5 d_pl_penaltiesOf_42 (by decide) ?_
      refine V_sub (lv' := [(4, _), (2, _), (0, _), (1, _)]) [0, 1, 2, 3] rfl ?_
      have h99 := ihi hin
      first | (rw [pnG_f hb] at h99; exact h99) | (rw [pnG_t hb] at h99; exact h99)
    · refine V_lload_n C d_pl_penaltiesOf_26 1 rfl ?_
      refine V_aload_n C d_pl_penaltiesOf_27 2 rfl ?_
      refine V_getr C 21 0 1 (by decide) rfl rfl in_pl (by decide) rfl wd_138 d_pl_penaltiesOf_28 ?_
      refine V_getr C 1 6 6 (by decide) rfl rfl in_td (by decide) rfl wd_52 d_pl_penaltiesOf_31 ?_
      refine V_iload C d_pl_penaltiesOf_34 0 rfl ?_
      refine V_lald C 6 _ (by decide) rfl rfl (by omega) (by decide) d_pl_penaltiesOf_36 ?_
      refine V_ladd C d_pl_penaltiesOf_37 ?_
      refine V_lstore_n (lv' := [(2, _), (4, _), (0, _), (1, _)]) C d_pl_penaltiesOf_38 (by decide) rfl ?_
      refine V_iinc (lv' := [(4, _), (2, _), (0, _), (1, _)]) C d_pl_penaltiesOf_39 1 rfl (by decide) rfl ?_
      refine V_goto C 5 d_pl_penaltiesOf_42 (by decide) ?_
      refine V_sub (lv' := [(4, _), (2, _), (0, _), (1, _)]) [0, 1, 2, 3] rfl ?_
      have h99 := ihi hin
      first | (rw [pnG_f hb] at h99; exact h99) | (rw [pnG_t hb] at h99; exact h99)

set_option maxRecDepth 20000 in
set_option maxHeartbeats 4000000 in
theorem c_pl_codeOfOnes (l : Launch) (w : zW) (σ : Nat → Nat → Int) (n nv : Nat) (hT : tI σ n nv) (S : Nat) (hS : S < 128) : zMl l w LL CC g_pl_codeOfOnes rm_pl_codeOfOnes [.ref (w.1 21), .int (zI ((S : Int)))] σ (((coG S n : Nat) : Int)) (σ) := by
  refine zMl.of g_pl_codeOfOnes (by decide +kernel) (Nat.le_of_ble_eq_true rfl) rfl ?_
  intro p e u m args below meth c C hr
  have C : zC p u m args meth c prog_3_method_5_code 5 "RoundPlans$Plans" w LL CC := C
  have hr : meth.sig.returnType = (some .long) := hr
  obtain ⟨hn, hn7, hv, hv3, h2, h3, h4, h5, h6, h7, h8, h9, h10, h11, h12, h13, h14, h15, h16⟩ := id hT
  show V p l e rm_pl_codeOfOnes u m args below meth c 5 w LL CC 0 0 (MQ below (zQl w LL CC (((coG S n : Nat) : Int)) (σ) u.heap.size) args u 0 0 (zA w LL.1 u.heap.size)) 0 [(0, .ref (w.1 21)), (1, .int (zI ((S : Int))))] [] σ
  refine V_lconst C 0 d_pl_codeOfOnes_0 rfl ?_
  refine V_lstore_n (lv' := [(2, _), (0, _), (1, _)]) C d_pl_codeOfOnes_1 (by decide) rfl ?_
  refine V_iconst C d_pl_codeOfOnes_2 ?_
  refine V_istore (lv' := [(4, _), (2, _), (0, _), (1, _)]) C d_pl_codeOfOnes_3 (by decide) rfl ?_
  refine V_sub (lv' := [(4, _), (2, _), (0, _), (1, _)]) [0, 1, 2, 3] rfl ?_
  refine loopUp (n := n) (P := fun i => V p l e rm_pl_codeOfOnes u m args below meth c 5 w LL CC 0 0 (MQ below (zQl w LL CC (((coG S n : Nat) : Int)) (σ) u.heap.size) args u 0 0 (zA w LL.1 u.heap.size)) 5 [(4, .int (zI ((i : Int)))), (2, .long (zL (((coG S i : Nat) : Int)))), (0, .ref (w.1 21)), (1, .int (zI ((S : Int))))] [] (σ)) (fun i hii ihi => ?_) 0 (Nat.zero_le _)
  show V p l e rm_pl_codeOfOnes u m args below meth c 5 w LL CC 0 0 (MQ below (zQl w LL CC (((coG S n : Nat) : Int)) (σ) u.heap.size) args u 0 0 (zA w LL.1 u.heap.size)) 5 [(4, .int (zI ((i : Int)))), (2, .long (zL (((coG S i : Nat) : Int)))), (0, .ref (w.1 21)), (1, .int (zI ((S : Int))))] [] (σ)
  refine V_iload C d_pl_codeOfOnes_5 0 rfl ?_
  refine V_aload_n C d_pl_codeOfOnes_7 2 rfl ?_
  refine V_getr C 21 0 1 (by decide) rfl rfl in_pl (by decide) rfl wd_138 d_pl_codeOfOnes_8 ?_
  refine V_geti C 1 0 (by decide) rfl rfl in_td (by decide) rfl wd_31 d_pl_codeOfOnes_11 ?_
  refine V_ti hn ?_
  refine V_cmpge C 42 d_pl_codeOfOnes_14 (by decide) ⟨by omega, by omega⟩ ⟨by omega, by omega⟩ (fun he => ?_) (fun he => ?_)
  · have hin : i = n := by omega
    subst hin
    refine V_lload_n C d_pl_codeOfOnes_42 1 rfl ?_
    exact V_lret C hr d_pl_codeOfOnes_43 rfl rfl
  · have hin : i < n := by omega
    refine V_iload_n C d_pl_codeOfOnes_17 3 rfl ?_
    refine V_iload C d_pl_codeOfOnes_18 0 rfl ?_
    refine V_callNi C (c_rp_holds l w σ S i hS (by omega)) ns_2 wd_285 wd_1 wd_286 o_rp_holds ⟨rfl, rfl, Nat.le_of_ble_eq_true rfl, Nat.le_of_ble_eq_true rfl⟩ rfl rfl (Nat.le_of_ble_eq_true rfl) d_pl_codeOfOnes_20 ⟨Nat.zero_le _, Nat.zero_le _⟩ ?_
    refine V_ifeqB C 36 d_pl_codeOfOnes_23 (by decide) (fun hb => ?_) (fun hb => ?_)
    · refine V_iinc (lv' := [(4, _), (2, _), (0, _), (1, _)]) C d_pl_codeOfOnes_36 0 rfl (by decide) rfl ?_
      refine V_goto C 5 d_pl_codeOfOnes_39 (by decide) ?_
      refine V_sub (lv' := [(4, _), (2, _), (0, _), (1, _)]) [0, 1, 2, 3] rfl ?_
      have h99 := ihi hin
      first | (rw [coG_f hb] at h99; exact h99) | (rw [coG_t hb] at h99; exact h99)
    · refine V_lload_n C d_pl_codeOfOnes_26 1 rfl ?_
      refine V_lconst C 1 d_pl_codeOfOnes_27 rfl ?_
      refine V_iload C d_pl_codeOfOnes_28 0 rfl ?_
      refine V_callNi C (c_rp_codeShift l w σ i (by omega)) ns_3 wd_335 wd_1 wd_336 o_rp_codeShift ⟨rfl, rfl, Nat.le_of_ble_eq_true rfl, Nat.le_of_ble_eq_true rfl⟩ rfl rfl (Nat.le_of_ble_eq_true rfl) d_pl_codeOfOnes_30 ⟨Nat.zero_le _, Nat.zero_le _⟩ ?_
      refine V_lshl C (((2 ^ (2 * (6 - i)) : Nat) : Int)) d_pl_codeOfOnes_33 ((zL_shl 1 (by omega)).trans (by rw [Int.one_mul, Int.natCast_pow]; rfl)) ?_
      refine V_ladd C d_pl_codeOfOnes_34 ?_
      refine V_tl (b := ((coG S i + 2 ^ (2 * (6 - i)) : Nat) : Int)) (by omega) ?_
      refine V_lstore_n (lv' := [(2, _), (4, _), (0, _), (1, _)]) C d_pl_codeOfOnes_35 (by decide) rfl ?_
      refine V_iinc (lv' := [(4, _), (2, _), (0, _), (1, _)]) C d_pl_codeOfOnes_36 1 rfl (by decide) rfl ?_
      refine V_goto C 5 d_pl_codeOfOnes_39 (by decide) ?_
      refine V_sub (lv' := [(4, _), (2, _), (0, _), (1, _)]) [0, 1, 2, 3] rfl ?_
      have h99 := ihi hin
      first | (rw [coG_f hb] at h99; exact h99) | (rw [coG_t hb] at h99; exact h99)

set_option maxRecDepth 20000 in
set_option maxHeartbeats 4000000 in
theorem c_pl_findPrice (l : Launch) (w : zW) (σ : Nat → Nat → Int) (n nv : Nat) (hT : tI σ n nv) (v S : Nat) (hv0 : v < 3) (hS : S < 128) (h18 : bd σ 18 384 0 1073741824) : zMl l w LL CC g_pl_findPrice rm_pl_findPrice [.ref (w.1 21), .int (zI ((v : Int))), .int (zI ((S : Int))), .long (zL (((coG S n : Nat) : Int)))] σ (fpr σ n v S) (σ) := by
  refine zMl.of g_pl_findPrice (by decide +kernel) (Nat.le_of_ble_eq_true rfl) rfl ?_
  intro p e u m args below meth c C hr
  have C : zC p u m args meth c prog_3_method_3_code 8 "RoundPlans$Plans" w LL CC := C
  have hr : meth.sig.returnType = (some .long) := hr
  obtain ⟨hn, hn7, hv, hv3, h2, h3, h4, h5, h6, h7, h8, h9, h10, h11, h12, h13, h14, h15, h16⟩ := id hT
  show V p l e rm_pl_findPrice u m args below meth c 8 w LL CC 0 0 (MQ below (zQl w LL CC (fpr σ n v S) (σ) u.heap.size) args u 0 0 (zA w LL.1 u.heap.size)) 0 [(0, .ref (w.1 21)), (1, .int (zI ((v : Int)))), (2, .int (zI ((S : Int)))), (3, .long (zL (((coG S n : Nat) : Int))))] [] σ
  refine V_aload_n C d_pl_findPrice_0 0 rfl ?_
  refine V_getr C 21 1 17 (by decide) rfl rfl in_pl (by decide) rfl wd_139 d_pl_findPrice_1 ?_
  refine V_iload_n C d_pl_findPrice_4 1 rfl ?_
  refine V_iload_n C d_pl_findPrice_5 2 rfl ?_
  refine V_callVi C 17 (by decide) rfl rfl (c_rd_firstBack l w σ v S hv0 hS) wd_346 wd_347 wd_348 wd_4 wd_349 o_rd_firstBack ⟨rfl, rfl, Nat.le_of_ble_eq_true rfl, Nat.le_of_ble_eq_true rfl⟩ rfl rfl (Nat.le_of_ble_eq_true rfl) d_pl_findPrice_6 ⟨Nat.zero_le _, Nat.zero_le _⟩ ?_
  have q18 := h18 (v * 128 + S) (by omega)
  have q13 := h13 v hv0
  have q15 := h15 v hv0
  refine V_istore (lv' := [(5, _), (0, _), (1, _), (2, _), (3, _)]) C d_pl_findPrice_9 (by decide) rfl ?_
  refine V_iload C d_pl_findPrice_11 0 rfl ?_
  refine V_ldc C (1073741824) d_pl_findPrice_13 wd_350 ?_
  refine V_cmpne C 22 d_pl_findPrice_15 (by decide) ⟨by omega, by omega⟩ ⟨by omega, by omega⟩ (fun g1 => ?_) (fun g1 => ?_)
  · refine V_iload C d_pl_findPrice_22 0 rfl ?_
    refine V_aload_n C d_pl_findPrice_24 1 rfl ?_
    refine V_getr C 21 0 1 (by decide) rfl rfl in_pl (by decide) rfl wd_138 d_pl_findPrice_25 ?_
    refine V_getr C 1 13 13 (by decide) rfl rfl in_td (by decide) rfl wd_68 d_pl_findPrice_28 ?_
    refine V_iload_n C d_pl_findPrice_31 2 rfl ?_
    refine V_iald C 13 _ (by decide) rfl rfl (by omega) (by decide) d_pl_findPrice_32 ?_
    refine V_isub C d_pl_findPrice_33 ?_
    refine V_i2l C d_pl_findPrice_34 ⟨by omega, by omega⟩ ?_
    refine V_lstore (lv' := [(6, _), (5, _), (0, _), (1, _), (2, _), (3, _)]) C d_pl_findPrice_35 (by decide) rfl ?_
    refine V_aload_n C d_pl_findPrice_37 2 rfl ?_
    refine V_getr C 21 0 1 (by decide) rfl rfl in_pl (by decide) rfl wd_138 d_pl_findPrice_38 ?_
    refine V_getr C 1 15 15 (by decide) rfl rfl in_td (by decide) rfl wd_73 d_pl_findPrice_41 ?_
    refine V_iload_n C d_pl_findPrice_44 3 rfl ?_
    refine V_iald C 15 _ (by decide) rfl rfl (by omega) (by decide) d_pl_findPrice_45 ?_
    refine V_i2l C d_pl_findPrice_46 ⟨by omega, by omega⟩ ?_
    refine V_lload C d_pl_findPrice_47 0 rfl ?_
    refine V_lmul C d_pl_findPrice_49 ?_
    refine V_bipush C d_pl_findPrice_50 (by decide) ?_
    refine V_lshl C (σ 15 v * (σ 18 (v * 128 + S) - σ 13 v) * 2 ^ 14) d_pl_findPrice_52 (zL_shl _ (k := 14) (by decide)) ?_
    refine V_iload_n C d_pl_findPrice_53 3 rfl ?_
    refine V_i2l C d_pl_findPrice_54 ⟨by omega, by omega⟩ ?_
    refine V_lload_n C d_pl_findPrice_55 5 rfl ?_
    refine V_lmul C d_pl_findPrice_56 ?_
    refine V_ladd C d_pl_findPrice_57 ?_
    exact V_lret C hr d_pl_findPrice_58 (by unfold fpr; rw [if_neg g1]) rfl
  · refine V_ldc2 C (1152921504606846976) d_pl_findPrice_18 wd_351 ?_
    exact V_lret C hr d_pl_findPrice_21 (by unfold fpr; rw [if_pos g1]) rfl

set_option maxRecDepth 20000 in
set_option maxHeartbeats 4000000 in
theorem c_pl_findPrices (l : Launch) (w : zW) (σ : Nat → Nat → Int) (n nv : Nat) (hT : tI σ n nv) (h18 : bd σ 18 384 0 1073741824) : zMv l w LL CC g_pl_findPrices rm_pl_findPrices [.ref (w.1 21)] σ (fpO σ n nv (2 ^ n - 1)) := by
  refine zMv.of g_pl_findPrices (by decide +kernel) (Nat.le_of_ble_eq_true rfl) rfl ?_
  intro p e u m args below meth c C hr
  have C : zC p u m args meth c prog_3_method_2_code 5 "RoundPlans$Plans" w LL CC := C
  have hr : meth.sig.returnType = none := hr
  obtain ⟨hn, hn7, hv, hv3, h2, h3, h4, h5, h6, h7, h8, h9, h10, h11, h12, h13, h14, h15, h16⟩ := id hT
  have hp := pow_n hn7
  show V p l e rm_pl_findPrices u m args below meth c 5 w LL CC 0 0 (MQ below (zQv w LL CC (fpO σ n nv (2 ^ n - 1)) u.heap.size) args u 0 0 (zA w LL.1 u.heap.size)) 0 [(0, .ref (w.1 21))] [] σ
  refine V_iconst C d_pl_findPrices_0 ?_
  refine V_istore_n (lv' := [(1, _), (0, _)]) C d_pl_findPrices_1 (by decide) rfl ?_
  refine V_sub (lv' := [(1, _), (0, _)]) [0, 1] rfl ?_
  refine loopUp (n := 2 ^ n - 1) (P := fun j => V p l e rm_pl_findPrices u m args below meth c 5 w LL CC 0 0 (MQ below (zQv w LL CC (fpO σ n nv (2 ^ n - 1)) u.heap.size) args u 0 0 (zA w LL.1 u.heap.size)) 2 [(1, .int (zI (((j + 1 : Nat) : Int)))), (0, .ref (w.1 21))] [] (fpO σ n nv j)) (fun j hij ihj => ?_) 0 (Nat.zero_le _)
  show V p l e rm_pl_findPrices u m args below meth c 5 w LL CC 0 0 (MQ below (zQv w LL CC (fpO σ n nv (2 ^ n - 1)) u.heap.size) args u 0 0 (zA w LL.1 u.heap.size)) 2 [(1, .int (zI (((j + 1 : Nat) : Int)))), (0, .ref (w.1 21))] [] (fpO σ n nv j)
  refine V_iload_n C d_pl_findPrices_2 0 rfl ?_
  refine V_iconst C d_pl_findPrices_3 ?_
  refine V_aload_n C d_pl_findPrices_4 1 rfl ?_
  refine V_getr C 21 0 1 (by decide) rfl rfl in_pl (by decide) rfl wd_138 d_pl_findPrices_5 ?_
  refine V_geti C 1 0 (by decide) rfl rfl in_td (by decide) rfl wd_31 d_pl_findPrices_8 ?_
  refine V_ti (b := (n : Int)) (by rw [fpO_ne (by decide) (by decide)]; exact hn) ?_
  refine V_ishl C (((2 ^ n : Nat) : Int)) d_pl_findPrices_11 (zI_shl1 (by omega)) ?_
  refine V_cmpge C 89 d_pl_findPrices_12 (by decide) ⟨by omega, by omega⟩ ⟨by omega, by omega⟩ (fun hj => ?_) (fun hj => ?_)
  · have hjj : j = 2 ^ n - 1 := by omega
    subst hjj
    exact V_vret C hr d_pl_findPrices_89 rfl
  · have hjn : j < 2 ^ n - 1 := by omega
    have hTj : tI (fpO σ n nv j) n nv := hT.congr (fun k hk => fpO_ne (by omega) (by omega) j)
    refine V_aload_n C d_pl_findPrices_15 1 rfl ?_
    refine V_iload_n C d_pl_findPrices_16 0 rfl ?_
    refine V_callVl C 21 (by decide) rfl rfl (c_pl_codeOfOnes l w _ n nv hTj (j + 1) (by omega)) wd_329 wd_331 ws_3 wd_5 wd_332 o_pl_codeOfOnes ⟨rfl, rfl, Nat.le_of_ble_eq_true rfl, Nat.le_of_ble_eq_true rfl⟩ rfl rfl (Nat.le_of_ble_eq_true rfl) d_pl_findPrices_17 ⟨Nat.zero_le _, Nat.zero_le _⟩ ?_
    refine V_lstore_n (lv' := [(2, _), (1, _), (0, _)]) C d_pl_findPrices_20 (by decide) rfl ?_
    refine V_aload_n C d_pl_findPrices_21 2 rfl ?_
    refine V_getr C 21 3 23 (by decide) rfl rfl in_pl (by decide) rfl wd_141 d_pl_findPrices_22 ?_
    refine V_iload_n C d_pl_findPrices_25 1 rfl ?_
    refine V_aload_n C d_pl_findPrices_26 2 rfl ?_
    refine V_iload_n C d_pl_findPrices_27 1 rfl ?_
    refine V_callVl C 21 (by decide) rfl rfl (c_pl_penaltiesOf l w _ n nv hTj (j + 1) (by omega)) wd_337 wd_339 ws_4 wd_5 wd_340 o_pl_penaltiesOf ⟨rfl, rfl, Nat.le_of_ble_eq_true rfl, Nat.le_of_ble_eq_true rfl⟩ rfl rfl (Nat.le_of_ble_eq_true rfl) d_pl_findPrices_28 ⟨Nat.zero_le _, Nat.zero_le _⟩ ?_
    refine V_tl (pnG_congr (fpO_ne (by decide) (by decide) j) n) ?_
    refine V_bipush C d_pl_findPrices_31 (by decide) ?_
    refine V_lshl C (pnG σ (j + 1) n * 2 ^ 14) d_pl_findPrices_33 (zL_shl _ (k := 14) (by decide)) ?_
    refine V_ldc2 C (3) d_pl_findPrices_34 wd_341 ?_
    refine V_lload_n C d_pl_findPrices_37 0 rfl ?_
    refine V_lmul C d_pl_findPrices_38 ?_
    refine V_ladd C d_pl_findPrices_39 ?_
    refine V_last C 23 (j + 1) (by decide) rfl rfl (by omega) (by decide) d_pl_findPrices_40 ?_
    have hTs : tI (zU (fpO σ n nv j) 23 (j + 1) (fsk σ n (j + 1))) n nv := hTj.congr (fun k hk => zU_ne (by omega))
    refine V_iconst C d_pl_findPrices_41 ?_
    refine V_istore (lv' := [(4, _), (2, _), (1, _), (0, _)]) C d_pl_findPrices_42 (by decide) rfl ?_
    refine V_sub (lv' := [(4, _), (2, _), (1, _), (0, _)]) [0, 1, 2, 3] rfl ?_
    refine loopUp (n := nv) (P := fun x => V p l e rm_pl_findPrices u m args below meth c 5 w LL CC 0 0 (MQ below (zQv w LL CC (fpO σ n nv (2 ^ n - 1)) u.heap.size) args u 0 0 (zA w LL.1 u.heap.size)) 44 [(4, .int (zI ((x : Int)))), (2, .long (zL (((coG (j + 1) n : Nat) : Int)))), (1, .int (zI (((j + 1 : Nat) : Int)))), (0, .ref (w.1 21))] [] (fpI (zU (fpO σ n nv j) 23 (j + 1) (fsk σ n (j + 1))) n (j + 1) x)) (fun x hix ihx => ?_) 0 (Nat.zero_le _)
    show V p l e rm_pl_findPrices u m args below meth c 5 w LL CC 0 0 (MQ below (zQv w LL CC (fpO σ n nv (2 ^ n - 1)) u.heap.size) args u 0 0 (zA w LL.1 u.heap.size)) 44 [(4, .int (zI ((x : Int)))), (2, .long (zL (((coG (j + 1) n : Nat) : Int)))), (1, .int (zI (((j + 1 : Nat) : Int)))), (0, .ref (w.1 21))] [] (fpI (zU (fpO σ n nv j) 23 (j + 1) (fsk σ n (j + 1))) n (j + 1) x)
    refine V_iload C d_pl_findPrices_44 0 rfl ?_
    refine V_aload_n C d_pl_findPrices_46 3 rfl ?_
    refine V_getr C 21 0 1 (by decide) rfl rfl in_pl (by decide) rfl wd_138 d_pl_findPrices_47 ?_
    refine V_geti C 1 1 (by decide) rfl rfl in_td (by decide) rfl wd_34 d_pl_findPrices_50 ?_
    refine V_ti (b := (nv : Int)) (by rw [fpI_ne (by decide), zU_ne (by decide), fpO_ne (by decide) (by decide)]; exact hv) ?_
    refine V_cmpge C 83 d_pl_findPrices_53 (by decide) ⟨by omega, by omega⟩ ⟨by omega, by omega⟩ (fun hx => ?_) (fun hx => ?_)
    · have hxx : x = nv := by omega
      subst hxx
      refine V_iinc (lv' := [(1, _), (4, _), (2, _), (0, _)]) C d_pl_findPrices_83 2 rfl (by decide) rfl ?_
      refine V_goto C 2 d_pl_findPrices_86 (by decide) ?_
      refine V_sub (lv' := [(1, _), (0, _)]) [0, 3] rfl ?_
      exact ihj hjn
    · have hxn : x < nv := by omega
      have hTx : tI (fpI (zU (fpO σ n nv j) 23 (j + 1) (fsk σ n (j + 1))) n (j + 1) x) n nv := hTs.congr (fun k hk => fpI_ne (by omega) x)
      refine V_aload_n C d_pl_findPrices_56 3 rfl ?_
      refine V_getr C 21 2 22 (by decide) rfl rfl in_pl (by decide) rfl wd_140 d_pl_findPrices_57 ?_
      refine V_iload C d_pl_findPrices_60 0 rfl ?_
      refine V_sipush C d_pl_findPrices_62 (by decide) ?_
      refine V_imul C d_pl_findPrices_65 ?_
      refine V_iload_n C d_pl_findPrices_66 2 rfl ?_
      refine V_iadd C d_pl_findPrices_67 ?_
      refine V_aload_n C d_pl_findPrices_68 3 rfl ?_
      refine V_iload C d_pl_findPrices_69 0 rfl ?_
      refine V_iload_n C d_pl_findPrices_71 2 rfl ?_
      refine V_lload_n C d_pl_findPrices_72 1 rfl ?_
      refine V_callVl C 21 (by decide) rfl rfl (c_pl_findPrice l w _ n nv hTx x (j + 1) (by omega) (by omega) (by intro i hi; rw [fpI_ne (by decide), zU_ne (by decide), fpO_ne (by decide) (by decide)]; exact h18 i hi)) wd_342 wd_344 ws_5 wd_5 wd_345 o_pl_findPrice ⟨rfl, rfl, Nat.le_of_ble_eq_true rfl, Nat.le_of_ble_eq_true rfl⟩ rfl rfl (Nat.le_of_ble_eq_true rfl) d_pl_findPrices_73 ⟨Nat.zero_le _, Nat.zero_le _⟩ ?_
      refine V_tl (fpr_congr (σ := zU (fpO σ n nv j) 23 (j + 1) (fsk σ n (j + 1))) (fpI_ne (by decide) x) (fpI_ne (by decide) x) (fpI_ne (by decide) x)) ?_
      refine V_last C 22 (x * 128 + (j + 1)) (by decide) rfl (by omega) (by omega) (by decide) d_pl_findPrices_76 ?_
      refine V_iinc (lv' := [(4, _), (2, _), (1, _), (0, _)]) C d_pl_findPrices_77 0 rfl (by decide) rfl ?_
      refine V_goto C 44 d_pl_findPrices_80 (by decide) ?_
      refine V_sub (lv' := [(4, _), (2, _), (1, _), (0, _)]) [0, 1, 2, 3] rfl ?_
      exact ihx hxn

set_option maxRecDepth 20000 in
set_option maxHeartbeats 4000000 in
theorem c_pl_leastWith (l : Launch) (w : zW) (σ : Nat → Nat → Int) (v S : Nat) (hv0 : v < 3) (hS : S < 128) (h22 : bd σ 22 384 (-1125899906842624) 1152921504606846976) (h24 : bd σ 24 128 (-3377699720527872) 1125899906842624) : zMl l w LL CC g_pl_leastWith rm_pl_leastWith [.ref (w.1 21), .int (zI ((v : Int))), .int (zI ((S : Int)))] σ (lwG σ v S) (σ) := by
  refine zMl.of g_pl_leastWith (by decide +kernel) (Nat.le_of_ble_eq_true rfl) rfl ?_
  intro p e u m args below meth c C hr
  have C : zC p u m args meth c prog_3_method_8_code 6 "RoundPlans$Plans" w LL CC := C
  have hr : meth.sig.returnType = (some .long) := hr
  show V p l e rm_pl_leastWith u m args below meth c 6 w LL CC 0 0 (MQ below (zQl w LL CC (lwG σ v S) (σ) u.heap.size) args u 0 0 (zA w LL.1 u.heap.size)) 0 [(0, .ref (w.1 21)), (1, .int (zI ((v : Int)))), (2, .int (zI ((S : Int))))] [] σ
  refine V_aload_n C d_pl_leastWith_0 0 rfl ?_
  refine V_getr C 21 4 24 (by decide) rfl rfl in_pl (by decide) rfl wd_142 d_pl_leastWith_1 ?_
  refine V_iload_n C d_pl_leastWith_4 2 rfl ?_
  refine V_lald C 24 _ (by decide) rfl rfl (by omega) (by decide) d_pl_leastWith_5 ?_
  refine V_lstore_n (lv' := [(3, _), (0, _), (1, _), (2, _)]) C d_pl_leastWith_6 (by decide) rfl ?_
  refine V_iload_n C d_pl_leastWith_7 3 rfl ?_
  refine V_istore (lv' := [(5, _), (3, _), (0, _), (1, _), (2, _)]) C d_pl_leastWith_8 (by decide) rfl ?_
  refine V_sub (lv' := [(5, _), (3, _), (0, _), (1, _), (2, _)]) [0, 1, 2, 3, 4] rfl ?_
  refine Nat.strongRecOn (motive := fun k => ∀ (Q : Nat) (x : Int), Q ≤ k → Q ≤ S → -4503599627370496 ≤ x ∧ x ≤ 1125899906842624 → lwF S (fun P => σ 22 (v * 128 + P)) (σ 24) k Q x = lwG σ v S → V p l e rm_pl_leastWith u m args below meth c 6 w LL CC 0 0 (MQ below (zQl w LL CC (lwG σ v S) (σ) u.heap.size) args u 0 0 (zA w LL.1 u.heap.size)) 10 [(5, .int (zI (Q : Int))), (3, .long (zL x)), (0, .ref (w.1 21)), (1, .int (zI (v : Int))), (2, .int (zI (S : Int)))] [] σ) S (fun k ihk => ?_) S (σ 24 S) (Nat.le_refl _) (Nat.le_refl _) (by have := h24 S hS; omega) rfl
  intro Q x hQk hQS hx hE
  show V p l e rm_pl_leastWith u m args below meth c 6 w LL CC 0 0 (MQ below (zQl w LL CC (lwG σ v S) (σ) u.heap.size) args u 0 0 (zA w LL.1 u.heap.size)) 10 [(5, .int (zI (Q : Int))), (3, .long (zL x)), (0, .ref (w.1 21)), (1, .int (zI (v : Int))), (2, .int (zI (S : Int)))] [] σ
  refine V_iload C d_pl_leastWith_10 0 rfl ?_
  refine V_ifle C 54 d_pl_leastWith_12 (by decide) ⟨by omega, by omega⟩ (fun g0 => ?_) (fun g0 => ?_)
  · have hQ0 : Q = 0 := by omega
    refine V_lload_n C d_pl_leastWith_54 1 rfl ?_
    exact V_lret C hr d_pl_leastWith_55 (by rw [← hE]; cases k with | zero => rfl | succ k => rw [lwF, if_pos hQ0]) rfl
  · have hQ0 : ¬ Q = 0 := by omega
    obtain ⟨k, rfl⟩ : ∃ k1, k = k1 + 1 := ⟨k - 1, by omega⟩
    have q22 := h22 (v * 128 + Q) (by omega)
    have q24 := h24 (S - Q) (by omega)
    refine V_lload_n C d_pl_leastWith_15 1 rfl ?_
    refine V_aload_n C d_pl_leastWith_16 2 rfl ?_
    refine V_getr C 21 2 22 (by decide) rfl rfl in_pl (by decide) rfl wd_140 d_pl_leastWith_17 ?_
    refine V_iload_n C d_pl_leastWith_20 3 rfl ?_
    refine V_sipush C d_pl_leastWith_21 (by decide) ?_
    refine V_imul C d_pl_leastWith_24 ?_
    refine V_iload C d_pl_leastWith_25 0 rfl ?_
    refine V_iadd C d_pl_leastWith_27 ?_
    refine V_lald C 22 (v * 128 + Q) (by decide) rfl (by omega) (by omega) (by decide) d_pl_leastWith_28 ?_
    refine V_aload_n C d_pl_leastWith_29 2 rfl ?_
    refine V_getr C 21 4 24 (by decide) rfl rfl in_pl (by decide) rfl wd_142 d_pl_leastWith_30 ?_
    refine V_iload_n C d_pl_leastWith_33 4 rfl ?_
    refine V_iload C d_pl_leastWith_34 0 rfl ?_
    refine V_isub C d_pl_leastWith_36 ?_
    refine V_lald C 24 (S - Q) (by decide) rfl (by omega) (by omega) (by decide) d_pl_leastWith_37 ?_
    refine V_ladd C d_pl_leastWith_38 ?_
    refine V_lmin C wd_367 wd_368 wd_8 wd_369 (Nat.le_of_ble_eq_true rfl) (Nat.le_of_ble_eq_true rfl) (Nat.zero_le _) (Nat.zero_le _) ⟨by omega, by omega⟩ ⟨by omega, by omega⟩ d_pl_leastWith_39 ?_
    refine V_lstore_n (lv' := [(3, _), (5, _), (0, _), (1, _), (2, _)]) C d_pl_leastWith_42 (by decide) rfl ?_
    refine V_iload C d_pl_leastWith_43 1 rfl ?_
    refine V_iconst C d_pl_leastWith_45 ?_
    refine V_isub C d_pl_leastWith_46 ?_
    refine V_ti (b := ((Q - 1 : Nat) : Int)) (by omega) ?_
    refine V_iload_n C d_pl_leastWith_47 4 rfl ?_
    refine V_iand C ((((Q - 1) &&& S : Nat) : Int)) d_pl_leastWith_48 (zI_and _ _) ?_
    refine V_istore (lv' := [(5, _), (3, _), (0, _), (1, _), (2, _)]) C d_pl_leastWith_49 (by decide) rfl ?_
    refine V_goto C 10 d_pl_leastWith_51 (by decide) ?_
    refine V_sub (lv' := [(5, _), (3, _), (0, _), (1, _), (2, _)]) [0, 1, 2, 3, 4] rfl ?_
    have hle : (Q - 1) &&& S ≤ Q - 1 := Nat.and_le_left
    refine ihk k (by omega) ((Q - 1) &&& S) _ (by omega) (by omega) ⟨by omega, by omega⟩ ?_
    rw [← hE, lwF, if_neg hQ0]

set_option maxRecDepth 20000 in
set_option maxHeartbeats 4000000 in
theorem c_pl_addRounds (l : Launch) (w : zW) (σ : Nat → Nat → Int) (v a : Nat) (hv0 : v < 3) (ha : a < 128) (h22 : bd σ 22 384 (-1125899906842624) 1152921504606846976) (h24 : bd (arS σ v a 0) 24 128 (-3377699720527872) 1125899906842624) (h24b : bd σ 24 128 (-3377699720527872) 1125899906842624) : zMv l w LL CC g_pl_addRounds rm_pl_addRounds [.ref (w.1 21), .int (zI ((v : Int))), .int (zI ((a : Int)))] σ (arS σ v a 0) := by
  refine zMv.of g_pl_addRounds (by decide +kernel) (Nat.le_of_ble_eq_true rfl) rfl ?_
  intro p e u m args below meth c C hr
  have C : zC p u m args meth c prog_3_method_7_code 4 "RoundPlans$Plans" w LL CC := C
  have hr : meth.sig.returnType = none := hr
  show V p l e rm_pl_addRounds u m args below meth c 4 w LL CC 0 0 (MQ below (zQv w LL CC (arS σ v a 0) u.heap.size) args u 0 0 (zA w LL.1 u.heap.size)) 0 [(0, .ref (w.1 21)), (1, .int (zI ((v : Int)))), (2, .int (zI ((a : Int))))] [] σ
  refine V_iload_n C d_pl_addRounds_0 2 rfl ?_
  refine V_istore_n (lv' := [(3, _), (0, _), (1, _), (2, _)]) C d_pl_addRounds_1 (by decide) rfl ?_
  refine V_sub (lv' := [(3, _), (0, _), (1, _), (2, _)]) [0, 1, 2, 3] rfl ?_
  refine V_ss (arS_top (σ := σ) (v := v) (a := a)).symm ?_
  refine Nat.strongRecOn (motive := fun j => j ≤ a → V p l e rm_pl_addRounds u m args below meth c 4 w LL CC 0 0 (MQ below (zQv w LL CC (arS σ v a 0) u.heap.size) args u 0 0 (zA w LL.1 u.heap.size)) 2 [(3, .int (zI (j : Int))), (0, .ref (w.1 21)), (1, .int (zI (v : Int))), (2, .int (zI (a : Int)))] [] (arS σ v a j)) a (fun j ihj => ?_) (Nat.le_refl a)
  intro hja
  show V p l e rm_pl_addRounds u m args below meth c 4 w LL CC 0 0 (MQ below (zQv w LL CC (arS σ v a 0) u.heap.size) args u 0 0 (zA w LL.1 u.heap.size)) 2 [(3, .int (zI (j : Int))), (0, .ref (w.1 21)), (1, .int (zI (v : Int))), (2, .int (zI (a : Int)))] [] (arS σ v a j)
  refine V_iload_n C d_pl_addRounds_2 0 rfl ?_
  refine V_ifle C 24 d_pl_addRounds_3 (by decide) ⟨by omega, by omega⟩ (fun g0 => ?_) (fun g0 => ?_)
  · have hj0 : j = 0 := by omega
    subst hj0
    exact V_vret C hr d_pl_addRounds_24 rfl
  · obtain ⟨j, rfl⟩ : ∃ j1, j = j1 + 1 := ⟨j - 1, by omega⟩
    refine V_aload_n C d_pl_addRounds_6 1 rfl ?_
    refine V_getr C 21 4 24 (by decide) rfl rfl in_pl (by decide) rfl wd_142 d_pl_addRounds_7 ?_
    refine V_iload_n C d_pl_addRounds_10 0 rfl ?_
    refine V_aload_n C d_pl_addRounds_11 1 rfl ?_
    refine V_iload_n C d_pl_addRounds_12 2 rfl ?_
    refine V_iload_n C d_pl_addRounds_13 0 rfl ?_
    refine V_callVl C 21 (by decide) rfl rfl (c_pl_leastWith l w (arS σ v a (j + 1)) v (j + 1) hv0 (by omega) (by intro i hi; unfold arS; rw [zUA_ne (by decide)]; exact h22 i hi) (by intro i hi; have e1 := h24 i hi; have e2 := h24b i hi; unfold arS at e1 ⊢; rw [zUA_self] at e1 ⊢; split; rename_i h; rw [if_pos ⟨by omega, h.2⟩] at e1; exact e1; exact e2)) wd_363 wd_365 ws_7 wd_5 wd_366 o_pl_leastWith ⟨rfl, rfl, Nat.le_of_ble_eq_true rfl, Nat.le_of_ble_eq_true rfl⟩ rfl rfl (Nat.le_of_ble_eq_true rfl) d_pl_addRounds_14 ⟨Nat.zero_le _, Nat.zero_le _⟩ ?_
    refine V_tl (arS_lw (by omega)) ?_
    refine V_last C 24 _ (by decide) rfl rfl (by omega) (by decide) d_pl_addRounds_17 ?_
    rw [arS_step (by omega)]
    refine V_iinc (lv' := [(3, _), (0, _), (1, _), (2, _)]) C d_pl_addRounds_18 0 rfl (by decide) rfl ?_
    refine V_goto C 2 d_pl_addRounds_21 (by decide) ?_
    refine V_sub (lv' := [(3, _), (0, _), (1, _), (2, _)]) [0, 1, 2, 3] rfl ?_
    have h99 := ihj j (by omega) (by omega)
    first | exact h99 | (rw [show ((j : Int)) = ((j + 1 : Nat) : Int) + -1 by omega] at h99; exact h99)

set_option maxRecDepth 20000 in
set_option maxHeartbeats 4000000 in
theorem c_pl_cheapest (l : Launch) (w : zW) (σ : Nat → Nat → Int) (n nv : Nat) (hT : tI σ n nv) (r : Int) (hr0 : rI r) (h22 : bd σ 22 384 (-1125899906842624) 1152921504606846976) (h23 : bd σ 23 128 0 1125899906842624) : zMl l w LL CC g_pl_cheapest rm_pl_cheapest [.ref (w.1 21), .int (zI (r))] σ (chV σ (2 ^ n - 1) r nv 24 (2 ^ n - 1)) (chV σ (2 ^ n - 1) r nv) := by
  refine zMl.of g_pl_cheapest (by decide +kernel) (Nat.le_of_ble_eq_true rfl) rfl ?_
  intro p e u m args below meth c C hr
  have C : zC p u m args meth c prog_3_method_6_code 4 "RoundPlans$Plans" w LL CC := C
  have hr : meth.sig.returnType = (some .long) := hr
  obtain ⟨hn, hn7, hv, hv3, h2, h3, h4, h5, h6, h7, h8, h9, h10, h11, h12, h13, h14, h15, h16⟩ := id hT
  have hp := pow_n hn7
  show V p l e rm_pl_cheapest u m args below meth c 4 w LL CC 0 0 (MQ below (zQl w LL CC (chV σ (2 ^ n - 1) r nv 24 (2 ^ n - 1)) (chV σ (2 ^ n - 1) r nv) u.heap.size) args u 0 0 (zA w LL.1 u.heap.size)) 0 [(0, .ref (w.1 21)), (1, .int (zI (r)))] [] σ
  refine V_iconst C d_pl_cheapest_0 ?_
  refine V_aload_n C d_pl_cheapest_1 0 rfl ?_
  refine V_getr C 21 0 1 (by decide) rfl rfl in_pl (by decide) rfl wd_138 d_pl_cheapest_2 ?_
  refine V_geti C 1 0 (by decide) rfl rfl in_td (by decide) rfl wd_31 d_pl_cheapest_5 ?_
  refine V_ti hn ?_
  refine V_ishl C (((2 ^ n : Nat) : Int)) d_pl_cheapest_8 (zI_shl1 (by omega)) ?_
  refine V_iconst C d_pl_cheapest_9 ?_
  refine V_isub C d_pl_cheapest_10 ?_
  refine V_ti (b := ((2 ^ n - 1 : Nat) : Int)) (by omega) ?_
  refine V_istore_n (lv' := [(2, _), (0, _), (1, _)]) C d_pl_cheapest_11 (by decide) rfl ?_
  refine V_aload_n C d_pl_cheapest_12 1 rfl ?_
  refine V_getr C 21 3 23 (by decide) rfl rfl in_pl (by decide) rfl wd_141 d_pl_cheapest_13 ?_
  refine V_iconst C d_pl_cheapest_16 ?_
  refine V_aload_n C d_pl_cheapest_17 1 rfl ?_
  refine V_getr C 21 4 24 (by decide) rfl rfl in_pl (by decide) rfl wd_142 d_pl_cheapest_18 ?_
  refine V_iconst C d_pl_cheapest_21 ?_
  refine V_sipush C d_pl_cheapest_22 (by decide) ?_
  refine V_copyl C 23 24 128 (by decide) (by decide) rfl rfl (by decide) wd_356 wd_358 wd_357 wd_9 (Nat.le_of_ble_eq_true rfl) (Nat.le_of_ble_eq_true rfl) d_pl_cheapest_25 ?_
  refine V_iconst C d_pl_cheapest_28 ?_
  refine V_istore_n (lv' := [(3, _), (2, _), (0, _), (1, _)]) C d_pl_cheapest_29 (by decide) rfl ?_
  refine V_sub (lv' := [(3, _), (2, _), (0, _), (1, _)]) [0, 1, 2, 3] rfl ?_
  refine loopUp (n := nv) (P := fun x => V p l e rm_pl_cheapest u m args below meth c 4 w LL CC 0 0 (MQ below (zQl w LL CC (chV σ (2 ^ n - 1) r nv 24 (2 ^ n - 1)) (chV σ (2 ^ n - 1) r nv) u.heap.size) args u 0 0 (zA w LL.1 u.heap.size)) 30 [(3, .int (zI ((x : Int)))), (2, .int (zI (((2 ^ n - 1 : Nat) : Int)))), (0, .ref (w.1 21)), (1, .int (zI (r)))] [] (chV σ (2 ^ n - 1) r x)) (fun x hix ihx => ?_) 0 (Nat.zero_le _)
  show V p l e rm_pl_cheapest u m args below meth c 4 w LL CC 0 0 (MQ below (zQl w LL CC (chV σ (2 ^ n - 1) r nv 24 (2 ^ n - 1)) (chV σ (2 ^ n - 1) r nv) u.heap.size) args u 0 0 (zA w LL.1 u.heap.size)) 30 [(3, .int (zI ((x : Int)))), (2, .int (zI (((2 ^ n - 1 : Nat) : Int)))), (0, .ref (w.1 21)), (1, .int (zI (r)))] [] (chV σ (2 ^ n - 1) r x)
  refine V_iload_n C d_pl_cheapest_30 0 rfl ?_
  refine V_aload_n C d_pl_cheapest_31 2 rfl ?_
  refine V_getr C 21 0 1 (by decide) rfl rfl in_pl (by decide) rfl wd_138 d_pl_cheapest_32 ?_
  refine V_geti C 1 1 (by decide) rfl rfl in_td (by decide) rfl wd_34 d_pl_cheapest_35 ?_
  refine V_ti (b := (nv : Int)) (by rw [chV_ne (by decide)]; exact hv) ?_
  refine V_cmpge C 58 d_pl_cheapest_38 (by decide) ⟨by omega, by omega⟩ ⟨by omega, by omega⟩ (fun hx => ?_) (fun hx => ?_)
  · have hxx : x = nv := by omega
    subst hxx
    refine V_aload_n C d_pl_cheapest_58 2 rfl ?_
    refine V_getr C 21 4 24 (by decide) rfl rfl in_pl (by decide) rfl wd_142 d_pl_cheapest_59 ?_
    refine V_iload_n C d_pl_cheapest_62 1 rfl ?_
    refine V_lald C 24 _ (by decide) rfl rfl (by omega) (by decide) d_pl_cheapest_63 ?_
    exact V_lret C hr d_pl_cheapest_64 rfl rfl
  · have hxn : x < nv := by omega
    have b0 := chV_bd (a := 2 ^ n - 1) (r := r) (by omega) h22 h23 x (by omega)
    have b1 := chV_bd (a := 2 ^ n - 1) (r := r) (by omega) h22 h23 (x + 1) (by omega)
    refine V_iload_n C d_pl_cheapest_41 0 rfl ?_
    refine V_iload_n C d_pl_cheapest_42 3 rfl ?_
    refine V_cmpeq C 52 d_pl_cheapest_43 (by decide) ⟨by omega, by omega⟩ hr0 (fun gr => ?_) (fun gr => ?_)
    · refine V_iinc (lv' := [(3, _), (2, _), (0, _), (1, _)]) C d_pl_cheapest_52 0 rfl (by decide) rfl ?_
      refine V_goto C 30 d_pl_cheapest_55 (by decide) ?_
      refine V_sub (lv' := [(3, _), (2, _), (0, _), (1, _)]) [0, 1, 2, 3] rfl ?_
      have h99 := ihx hxn
      first | (rw [chV, if_pos gr] at h99; exact h99) | (rw [chV, if_neg gr] at h99; exact h99)
    · refine V_aload_n C d_pl_cheapest_46 2 rfl ?_
      refine V_iload_n C d_pl_cheapest_47 0 rfl ?_
      refine V_iload_n C d_pl_cheapest_48 1 rfl ?_
      refine V_callVv C 21 (by decide) rfl rfl (c_pl_addRounds l w _ x (2 ^ n - 1) (by omega) (by omega) (by intro i hi; rw [chV_ne (by decide)]; exact h22 i hi) (by intro i hi; have := b1 i hi; rw [chV, if_neg gr] at this; omega) (by intro i hi; have := b0 i hi; omega)) wd_359 wd_361 ws_6 wd_5 wd_362 o_pl_addRounds ⟨rfl, rfl, Nat.le_of_ble_eq_true rfl, Nat.le_of_ble_eq_true rfl⟩ rfl rfl (Nat.le_of_ble_eq_true rfl) d_pl_cheapest_49 ⟨Nat.zero_le _, Nat.zero_le _⟩ ?_
      refine V_iinc (lv' := [(3, _), (2, _), (0, _), (1, _)]) C d_pl_cheapest_52 0 rfl (by decide) rfl ?_
      refine V_goto C 30 d_pl_cheapest_55 (by decide) ?_
      refine V_sub (lv' := [(3, _), (2, _), (0, _), (1, _)]) [0, 1, 2, 3] rfl ?_
      have h99 := ihx hxn
      first | (rw [chV, if_pos gr] at h99; exact h99) | (rw [chV, if_neg gr] at h99; exact h99)
end
section
/-! RUN: the pieces -/
/-- the vehicle of stop s in a price -/
def dg (p s : Nat) : Nat := p / 2 ^ (2 * (6 - s)) % 4
theorem and_3 (x : Nat) : x &&& 3 = x % 4 := Nat.and_two_pow_sub_one_eq_mod x 2
def siF (p v : Nat) : Nat → Nat := bts (fun i => decide (dg p i = v))
theorem siF_t {p v i : Nat} (h : dg p i = v) : siF p v (i + 1) = wi (siF p v i) i := by unfold siF; rw [bts, if_pos (decide_eq_true h)]
theorem siF_f {p v i : Nat} (h : ¬ dg p i = v) : siF p v (i + 1) = siF p v i := by unfold siF; rw [bts, if_neg (by simp [h])]
theorem bts_lt {P : Nat → Bool} {n : Nat} : bts P n < 2 ^ n := Nat.lt_pow_two_of_testBit _ (fun i hi => by rw [bts_bit]; simp; omega)
theorem siF_lt {p v n : Nat} (h : n ≤ 7) : siF p v n < 128 := Nat.lt_of_lt_of_le bts_lt (pow_n h).2
/-- fill -/
def flS (σ : Nat → Nat → Int) (h n0 : Nat) (v : Int) : Nat → Nat → Int := zUA σ h (fun j => if j < n0 then v else σ h j)
theorem flS_0 {σ : Nat → Nat → Int} {h : Nat} {v : Int} : flS σ h 0 v = σ := by
  funext k i
  unfold flS
  by_cases hk : k = h
  · subst hk; rw [zUA_self, if_neg (by omega)]
  · rw [zUA_ne hk]
theorem flS_step {σ : Nat → Nat → Int} {h i : Nat} {v : Int} : zU (flS σ h i v) h i v = flS σ h (i + 1) v := by
  funext k j
  by_cases hk : k = h
  · subst hk
    unfold flS
    rw [zUA_self]
    by_cases hj : j = i
    · subst hj; rw [zU_self, if_pos (by omega)]
    · rw [zU_nj hj, zUA_self]
      by_cases h2 : j < i
      · rw [if_pos h2, if_pos (by omega)]
      · rw [if_neg h2, if_neg (by omega)]
  · rw [zU_ne hk]; unfold flS; rw [zUA_ne hk, zUA_ne hk]
theorem flS_ne {σ : Nat → Nat → Int} {h n0 k : Nat} {v : Int} (hk : k ≠ h) : flS σ h n0 v k = σ k := zUA_ne hk
/-- take -/
def tkL (σ : Nat → Nat → Int) (n nv b : Nat) : Nat → Nat → Nat → Int
  | 0 => zU (zU (zU σ 25 0 n) 25 1 nv) 25 2 (b / 2 ^ 14 : Nat)
  | i + 1 => zU (tkL σ n nv b i) 26 i (dg b i : Nat)
def tkS (σ : Nat → Nat → Int) (n nv b : Nat) : Nat → Nat → Int := flS (flS (flS (tkL σ n nv b n) 27 7 (-1)) 29 3 0) 30 3 (-1)
theorem tkL_ne {σ : Nat → Nat → Int} {n nv b k : Nat} (h1 : k ≠ 25) (h2 : k ≠ 26) : ∀ i, tkL σ n nv b i k = σ k
  | 0 => by unfold tkL; rw [zU_ne h1, zU_ne h1, zU_ne h1]
  | i + 1 => by unfold tkL; rw [zU_ne h2, tkL_ne h1 h2 i]
theorem tkL_25 {σ : Nat → Nat → Int} {n nv b : Nat} : ∀ i, tkL σ n nv b i 25 = tkL σ n nv b 0 25
  | 0 => rfl
  | i + 1 => by
    show zU (tkL σ n nv b i) 26 i _ 25 = _
    rw [zU_ne (by decide)]; exact tkL_25 i
theorem tkS_ne {σ : Nat → Nat → Int} {n nv b k : Nat} (h : k < 25 ∨ k = 28 ∨ 30 < k) : tkS σ n nv b k = σ k := by
  unfold tkS; rw [flS_ne (by omega), flS_ne (by omega), flS_ne (by omega), tkL_ne (by omega) (by omega)]
theorem tkS_25 {σ : Nat → Nat → Int} {n nv b : Nat} : tkS σ n nv b 25 = tkL σ n nv b 0 25 := by
  unfold tkS; rw [flS_ne (by decide), flS_ne (by decide), flS_ne (by decide), tkL_25]
/-- bitCount -/
def bc1 (S : Nat) : Nat := S - (S / 2 ^ 1 &&& 1431655765)
def bc2 (S : Nat) : Nat := (bc1 S &&& 858993459) + (bc1 S / 2 ^ 2 &&& 858993459)
def bc3 (S : Nat) : Nat := (bc2 S + bc2 S / 2 ^ 4) &&& 252645135
def bc4 (S : Nat) : Nat := bc3 S + bc3 S / 2 ^ 8
def bc5 (S : Nat) : Nat := bc4 S + bc4 S / 2 ^ 16
theorem bc_ok : ∀ S, S < 128 → (S / 2 ^ 1 &&& 1431655765) ≤ S ∧ bc1 S < 2 ^ 31 ∧ bc2 S < 2 ^ 31 ∧ bc3 S < 2 ^ 31 ∧ bc4 S < 2 ^ 31 ∧ (bc5 S &&& 63) = cnt (fun i => S.testBit i) 7 := by decide +kernel
/-- the least price when r rests, as the tables stand; it doesn't hang on the rest of the store -/
theorem lwF_congr2 {S : Nat} {pr pr' g g' : Nat → Int} (hp : ∀ x, pr x = pr' x) (h : ∀ x, x < S → g x = g' x) : ∀ (k Q : Nat) (x : Int), Q ≤ S → lwF S pr g k Q x = lwF S pr' g' k Q x := by
  intro k Q x hQ
  have : pr = pr' := funext hp
  subst this
  exact lwF_congr h k Q x hQ
theorem chV_congr {σ σ' : Nat → Nat → Int} {a : Nat} {r : Int} (ha : a < 128) (h22 : σ' 22 = σ 22) (h23 : σ' 23 = σ 23) : ∀ v j, j < 128 → chV σ' a r v 24 j = chV σ a r v 24 j
  | 0, j, hj => by
    unfold chV cp0
    rw [zUA_self, zUA_self, if_pos hj, if_pos hj, h23]
  | v + 1, j, hj => by
    have ih := chV_congr (r := r) ha h22 h23 v
    unfold chV
    split
    · exact ih j hj
    · unfold arS
      rw [zUA_self, zUA_self]
      split
      · rename_i h
        unfold lwG
        rw [show chV σ' a r v 22 = σ' 22 from chV_ne (by decide) v, show chV σ a r v 22 = σ 22 from chV_ne (by decide) v, h22, ih j hj]
        exact lwF_congr (fun x hx => ih x (by omega)) j j _ (Nat.le_refl j)
      · exact ih j hj
/-- the loop of run over the vehicles; b the best price, c v that when v rests -/
def rnL (n nv b : Nat) (c : Nat → Nat) (σ : Nat → Nat → Int) : Nat → Nat → Nat → Int
  | 0 => σ
  | v + 1 =>
    let τ := zU (chV (rnL n nv b c σ v) (2 ^ n - 1) v nv) 31 v (((c v / 2 ^ 14 : Nat) : Int) - ((b / 2 ^ 14 : Nat) : Int))
    if siF b v n = 0 then τ else dvF n v 7 7 (τ 13 v) (siF b v n) (ltO τ n (siF b v n) (τ 18 (v * 128 + siF b v n)) (siF b v n))
theorem dvF_ne {n v k : Nat} (h : k < 27 ∨ 30 < k) : ∀ (f p : Nat) (t : Int) (P : Nat) (σ : Nat → Nat → Int), dvF n v f p t P σ k = σ k
  | 0, p, t, P, σ => by unfold dvF; rw [zU_ne (by omega)]
  | f + 1, p, t, P, σ => by
    by_cases h0 : P = 0
    · rw [dvF, if_pos h0, zU_ne (by omega)]
    · rw [dvF, if_neg h0]
      cases fsF (fiF σ p t P) n with
      | none => rfl
      | some s => exact (dvF_ne h f _ _ _ _).trans (ntF_ne (by omega) (by omega) (by omega))
theorem dvF_29 {n v : Nat} : ∀ (f p : Nat) (t : Int) (P : Nat) (σ : Nat → Nat → Int), bd σ 29 3 0 7 → bd (dvF n v f p t P σ) 29 3 0 7
  | 0, p, t, P, σ, h => by intro i hi; unfold dvF; rw [zU_ne (by decide)]; exact h i hi
  | f + 1, p, t, P, σ, h => by
    by_cases h0 : P = 0
    · rw [dvF, if_pos h0]; intro i hi; rw [zU_ne (by decide)]; exact h i hi
    · rw [dvF, if_neg h0]
      cases fsF (fiF σ p t P) n with
      | none => exact h
      | some s => exact dvF_29 f _ _ _ _ (ntF_29 h)
theorem rnL_ne {n nv b : Nat} {c : Nat → Nat} {σ : Nat → Nat → Int} {k : Nat} (h : k ≤ 19 ∨ (21 ≤ k ∧ k ≤ 23) ∨ k = 25 ∨ k = 26 ∨ 31 < k) : ∀ v, rnL n nv b c σ v k = σ k
  | 0 => rfl
  | v + 1 => by
    have ih := rnL_ne (n := n) (nv := nv) (b := b) (c := c) (σ := σ) h v
    unfold rnL
    dsimp only
    split
    · rw [zU_ne (by omega), chV_ne (by omega), ih]
    · rw [dvF_ne (by omega), ltO_ne (by omega), zU_ne (by omega), chV_ne (by omega), ih]
theorem rnL_20 {n nv b : Nat} {c : Nat → Nat} {σ : Nat → Nat → Int} (hT : tI σ n nv) (hL : bd σ 20 896 (-1) 86399) : ∀ v, bd (rnL n nv b c σ v) 20 896 (-1) 86399
  | 0 => hL
  | v + 1 => by
    have ih := rnL_20 (b := b) (c := c) hT hL v
    unfold rnL
    dsimp only
    split
    · intro i hi; rw [zU_ne (by decide), chV_ne (by decide)]; exact ih i hi
    · intro i hi
      rw [dvF_ne (by omega)]
      refine ltO_bd (nv := nv) (hT.congr (fun k hk => ?_)) ?_ _ i hi
      · rw [zU_ne (by omega), chV_ne (by omega), rnL_ne (by omega)]
      · intro i hi; rw [zU_ne (by decide), chV_ne (by decide)]; exact ih i hi
theorem rnL_29 {n nv b : Nat} {c : Nat → Nat} {σ : Nat → Nat → Int} (h : bd σ 29 3 0 7) : ∀ v, bd (rnL n nv b c σ v) 29 3 0 7
  | 0 => h
  | v + 1 => by
    have ih := rnL_29 (n := n) (nv := nv) (b := b) (c := c) h v
    unfold rnL
    dsimp only
    split
    · intro i hi; rw [zU_ne (by decide), chV_ne (by decide)]; exact ih i hi
    · refine dvF_29 _ _ _ _ _ ?_
      intro i hi; rw [ltO_ne (by decide), zU_ne (by decide), chV_ne (by decide)]; exact ih i hi
def runS1 (σ : Nat → Nat → Int) (n nv : Nat) : Nat → Nat → Int := fpO (bkO σ n nv) n nv (2 ^ n - 1)
def runB (σ : Nat → Nat → Int) (n nv : Nat) (r : Int) : Int := chV (runS1 σ n nv) (2 ^ n - 1) r nv 24 (2 ^ n - 1)
def runF (σ : Nat → Nat → Int) (n nv b : Nat) (c : Nat → Nat) : Nat → Nat → Int := rnL n nv b c (tkS (chV (runS1 σ n nv) (2 ^ n - 1) (-1) nv) n nv b) nv
theorem fbR_bd {σ : Nat → Nat → Int} {n nv v S : Nat} (hT : tI σ n nv) (hR : bd σ 19 896 0 1073741824) (hv : v < 3) (hS : S < 128) : 0 ≤ fbR σ n v S ∧ fbR σ n v S ≤ 1073741824 := by
  have := fbB_bd hT hR hv hS n hT.2.1
  unfold fbR NV
  split <;> omega
theorem bkI_18 {σ : Nat → Nat → Int} {n nv v : Nat} (hT : tI σ n nv) (hR : bd σ 19 896 0 1073741824) (h18 : bd σ 18 384 0 1073741824) (hv : v < 3) : ∀ j, j < 128 → bd (bkI σ n v j) 18 384 0 1073741824
  | 0, _ => h18
  | j + 1, hj => by
    have ih := bkI_18 hT hR h18 hv j (by omega)
    have hT' : tI (bkI σ n v j) n nv := hT.congr (fun k hk => bkI_ne (by omega) (by omega) j)
    have hR' := bkI_bd hT hR hv j (by omega)
    intro i hi
    have ih0 := ih i hi
    unfold bkI
    split
    · by_cases e : i = v * 128 + (j + 1)
      · subst e; rw [zU_self]; exact fbR_bd hT' hR' hv hj
      · rw [zU_nj e, fbS_ne (by decide)]; exact ih0
    · by_cases e : i = v * 128 + (j + 1)
      · subst e; rw [zU_self]; unfold NV; omega
      · rw [zU_nj e]; exact ih0
theorem bkO_18 {σ : Nat → Nat → Int} {n nv : Nat} (hT : tI σ n nv) (hR : bd σ 19 896 0 1073741824) (h18 : bd σ 18 384 0 1073741824) : ∀ v, v ≤ 3 → bd (bkO σ n v) 18 384 0 1073741824
  | 0, _ => h18
  | v + 1, hv => by
    have ih := bkO_18 hT hR h18 v (by omega)
    have hT' : tI (bkO σ n v) n nv := hT.congr (fun k hk => bkO_ne (by omega) (by omega) v)
    have := pow_n hT.2.1
    unfold bkO
    exact bkI_18 hT' (bkO_bd hT hR v (by omega)) ih (by omega) _ (by omega)
end
section
/-! run, and what it calls -/
set_option maxRecDepth 20000 in
set_option maxHeartbeats 4000000 in
theorem c_rp_costIn (l : Launch) (w : zW) (σ : Nat → Nat → Int) (p0 : Nat) (hp : p0 < 2 ^ 63) : zMl l w LL CC g_rp_costIn rm_rp_costIn [.long (zL ((p0 : Int)))] σ (((p0 / 2 ^ 14 : Nat) : Int)) (σ) := by
  refine zMl.of g_rp_costIn (by decide +kernel) (Nat.le_of_ble_eq_true rfl) rfl ?_
  intro p e u m args below meth c C hr
  have C : zC p u m args meth c prog_1_method_23_code 2 "RoundPlans" w LL CC := C
  have hr : meth.sig.returnType = (some .long) := hr
  show V p l e rm_rp_costIn u m args below meth c 2 w LL CC 0 0 (MQ below (zQl w LL CC (((p0 / 2 ^ 14 : Nat) : Int)) (σ) u.heap.size) args u 0 0 (zA w LL.1 u.heap.size)) 0 [(0, .long (zL ((p0 : Int))))] [] σ
  refine V_lload_n C d_rp_costIn_0 0 rfl ?_
  refine V_bipush C d_rp_costIn_1 (by decide) ?_
  refine V_lshr C (((p0 / 2 ^ 14 : Nat) : Int)) d_rp_costIn_3 (zL_shr hp (k := 14) (by decide)) ?_
  exact V_lret C hr d_rp_costIn_4 rfl rfl

set_option maxRecDepth 20000 in
set_option maxHeartbeats 4000000 in
theorem c_rp_vehicleIn (l : Launch) (w : zW) (σ : Nat → Nat → Int) (p0 s : Nat) (hp : p0 < 2 ^ 63) (hs : s < 7) : zMi l w LL CC g_rp_vehicleIn rm_rp_vehicleIn [.long (zL ((p0 : Int))), .int (zI ((s : Int)))] σ (((dg p0 s : Nat) : Int)) (σ) := by
  refine zMi.of g_rp_vehicleIn (by decide +kernel) (Nat.le_of_ble_eq_true rfl) rfl ?_
  intro p e u m args below meth c C hr
  have C : zC p u m args meth c prog_1_method_24_code 3 "RoundPlans" w LL CC := C
  have hr : meth.sig.returnType = (some .int) := hr
  show V p l e rm_rp_vehicleIn u m args below meth c 3 w LL CC 0 0 (MQ below (zQi w LL CC (((dg p0 s : Nat) : Int)) (σ) u.heap.size) args u 0 0 (zA w LL.1 u.heap.size)) 0 [(0, .long (zL ((p0 : Int)))), (2, .int (zI ((s : Int))))] [] σ
  refine V_lload_n C d_rp_vehicleIn_0 0 rfl ?_
  refine V_iload_n C d_rp_vehicleIn_1 1 rfl ?_
  refine V_callSi C (c_rp_codeShift l w σ s hs) wd_380 wd_335 wd_1 wd_336 o_rp_codeShift ⟨rfl, rfl, Nat.le_of_ble_eq_true rfl, Nat.le_of_ble_eq_true rfl⟩ rfl rfl (Nat.le_of_ble_eq_true rfl) d_rp_vehicleIn_2 ⟨Nat.zero_le _, Nat.zero_le _⟩ ?_
  refine V_lshr C (((p0 / 2 ^ (2 * (6 - s)) : Nat) : Int)) d_rp_vehicleIn_5 (zL_shr hp (by omega)) ?_
  have hle : p0 / 2 ^ (2 * (6 - s)) ≤ p0 := Nat.div_le_self _ _
  generalize hq : p0 / 2 ^ (2 * (6 - s)) = q at hle ⊢
  refine V_l2i C d_rp_vehicleIn_6 ⟨by omega, by omega⟩ ?_
  refine V_iconst C d_rp_vehicleIn_7 ?_
  refine V_iand C (((q &&& 3 : Nat) : Int)) d_rp_vehicleIn_8 (zI_and _ _) ?_
  exact V_iret C hr d_rp_vehicleIn_9 (by unfold dg; rw [hq, and_3]) rfl

set_option maxRecDepth 20000 in
set_option maxHeartbeats 4000000 in
theorem c_rp_setIn (l : Launch) (w : zW) (σ : Nat → Nat → Int) (p0 v n : Nat) (hp : p0 < 2 ^ 63) (hv : v < 4) (hn7 : n ≤ 7) : zMi l w LL CC g_rp_setIn rm_rp_setIn [.long (zL ((p0 : Int))), .int (zI ((v : Int))), .int (zI ((n : Int)))] σ (((siF p0 v n : Nat) : Int)) (σ) := by
  refine zMi.of g_rp_setIn (by decide +kernel) (Nat.le_of_ble_eq_true rfl) rfl ?_
  intro p e u m args below meth c C hr
  have C : zC p u m args meth c prog_1_method_25_code 6 "RoundPlans" w LL CC := C
  have hr : meth.sig.returnType = (some .int) := hr
  show V p l e rm_rp_setIn u m args below meth c 6 w LL CC 0 0 (MQ below (zQi w LL CC (((siF p0 v n : Nat) : Int)) (σ) u.heap.size) args u 0 0 (zA w LL.1 u.heap.size)) 0 [(0, .long (zL ((p0 : Int)))), (2, .int (zI ((v : Int)))), (3, .int (zI ((n : Int))))] [] σ
  refine V_iconst C d_rp_setIn_0 ?_
  refine V_istore (lv' := [(4, _), (0, _), (2, _), (3, _)]) C d_rp_setIn_1 (by decide) rfl ?_
  refine V_iconst C d_rp_setIn_3 ?_
  refine V_istore (lv' := [(5, _), (4, _), (0, _), (2, _), (3, _)]) C d_rp_setIn_4 (by decide) rfl ?_
  refine V_sub (lv' := [(5, _), (4, _), (0, _), (2, _), (3, _)]) [0, 1, 2, 3, 4] rfl ?_
  refine loopUp (n := n) (P := fun i => V p l e rm_rp_setIn u m args below meth c 6 w LL CC 0 0 (MQ below (zQi w LL CC (((siF p0 v n : Nat) : Int)) (σ) u.heap.size) args u 0 0 (zA w LL.1 u.heap.size)) 6 [(5, .int (zI ((i : Int)))), (4, .int (zI (((siF p0 v i : Nat) : Int)))), (0, .long (zL ((p0 : Int)))), (2, .int (zI ((v : Int)))), (3, .int (zI ((n : Int))))] [] (σ)) (fun i hii ihi => ?_) 0 (Nat.zero_le _)
  show V p l e rm_rp_setIn u m args below meth c 6 w LL CC 0 0 (MQ below (zQi w LL CC (((siF p0 v n : Nat) : Int)) (σ) u.heap.size) args u 0 0 (zA w LL.1 u.heap.size)) 6 [(5, .int (zI ((i : Int)))), (4, .int (zI (((siF p0 v i : Nat) : Int)))), (0, .long (zL ((p0 : Int)))), (2, .int (zI ((v : Int)))), (3, .int (zI ((n : Int))))] [] (σ)
  refine V_iload C d_rp_setIn_6 0 rfl ?_
  refine V_iload_n C d_rp_setIn_8 4 rfl ?_
  refine V_cmpge C 37 d_rp_setIn_9 (by decide) ⟨by omega, by omega⟩ ⟨by omega, by omega⟩ (fun he => ?_) (fun he => ?_)
  · have hin : i = n := by omega
    subst hin
    refine V_iload C d_rp_setIn_37 1 rfl ?_
    exact V_iret C hr d_rp_setIn_39 rfl rfl
  · have hin : i < n := by omega
    have hd4 : dg p0 i < 4 := Nat.mod_lt _ (by decide)
    refine V_lload_n C d_rp_setIn_12 2 rfl ?_
    refine V_iload C d_rp_setIn_13 0 rfl ?_
    refine V_callSi C (c_rp_vehicleIn l w σ p0 i hp (by omega)) wd_386 wd_378 wd_1 wd_379 o_rp_vehicleIn ⟨rfl, rfl, Nat.le_of_ble_eq_true rfl, Nat.le_of_ble_eq_true rfl⟩ rfl rfl (Nat.le_of_ble_eq_true rfl) d_rp_setIn_15 ⟨Nat.zero_le _, Nat.zero_le _⟩ ?_
    refine V_iload_n C d_rp_setIn_18 3 rfl ?_
    refine V_cmpne C 31 d_rp_setIn_19 (by decide) ⟨by omega, by omega⟩ ⟨by omega, by omega⟩ (fun g1 => ?_) (fun g1 => ?_)
    · refine V_iinc (lv' := [(5, _), (4, _), (0, _), (2, _), (3, _)]) C d_rp_setIn_31 0 rfl (by decide) rfl ?_
      refine V_goto C 6 d_rp_setIn_34 (by decide) ?_
      refine V_sub (lv' := [(5, _), (4, _), (0, _), (2, _), (3, _)]) [0, 1, 2, 3, 4] rfl ?_
      have h99 := ihi hin
      first | (rw [siF_f (by omega)] at h99; exact h99) | (rw [siF_t (by omega)] at h99; exact h99)
    · refine V_iload C d_rp_setIn_22 1 rfl ?_
      refine V_iload C d_rp_setIn_24 0 rfl ?_
      refine V_callSi C (c_rp_with l w σ (siF p0 v i) i (by omega)) wd_387 wd_275 wd_1 wd_276 o_rp_with ⟨rfl, rfl, Nat.le_of_ble_eq_true rfl, Nat.le_of_ble_eq_true rfl⟩ rfl rfl (Nat.le_of_ble_eq_true rfl) d_rp_setIn_26 ⟨Nat.zero_le _, Nat.zero_le _⟩ ?_
      refine V_istore (lv' := [(4, _), (5, _), (0, _), (2, _), (3, _)]) C d_rp_setIn_29 (by decide) rfl ?_
      refine V_iinc (lv' := [(5, _), (4, _), (0, _), (2, _), (3, _)]) C d_rp_setIn_31 1 rfl (by decide) rfl ?_
      refine V_goto C 6 d_rp_setIn_34 (by decide) ?_
      refine V_sub (lv' := [(5, _), (4, _), (0, _), (2, _), (3, _)]) [0, 1, 2, 3, 4] rfl ?_
      have h99 := ihi hin
      first | (rw [siF_f (by omega)] at h99; exact h99) | (rw [siF_t (by omega)] at h99; exact h99)

set_option maxRecDepth 20000 in
set_option maxHeartbeats 4000000 in
theorem c_ar_fill (l : Launch) (w : zW) (σ : Nat → Nat → Int) (h n0 : Nat) (hh : h < LL.1) (hd0 : LL.2.1 h = (0, n0, [])) (hn0 : n0 < 2 ^ 31) (v : Int) : zMv l w LL CC g_ar_fill rm_ar_fill [.ref (w.1 h), .int (zI (v))] σ (flS σ h n0 v) := by
  refine zMv.of g_ar_fill (by decide +kernel) (Nat.le_of_ble_eq_true rfl) rfl ?_
  intro p e u m args below meth c C hr
  have C : zC p u m args meth c prog_11_method_103_code 4 "java/util/Arrays" w LL CC := C
  have hr : meth.sig.returnType = none := hr
  show V p l e rm_ar_fill u m args below meth c 4 w LL CC 0 0 (MQ below (zQv w LL CC (flS σ h n0 v) u.heap.size) args u 0 0 (zA w LL.1 u.heap.size)) 0 [(0, .ref (w.1 h)), (1, .int (zI (v)))] [] σ
  refine V_iconst C d_ar_fill_0 ?_
  refine V_istore_n (lv' := [(2, _), (0, _), (1, _)]) C d_ar_fill_1 (by decide) rfl ?_
  refine V_aload_n C d_ar_fill_2 1 rfl ?_
  refine V_alen C h hh hd0 d_ar_fill_3 ?_
  refine V_istore_n (lv' := [(3, _), (2, _), (0, _), (1, _)]) C d_ar_fill_4 (by decide) rfl ?_
  refine V_sub (lv' := [(2, _), (3, _), (0, _), (1, _)]) [1, 0, 2, 3] rfl ?_
  refine V_ss (flS_0 (h := h) (v := v)).symm ?_
  refine loopUp (n := n0) (P := fun i => V p l e rm_ar_fill u m args below meth c 4 w LL CC 0 0 (MQ below (zQv w LL CC (flS σ h n0 v) u.heap.size) args u 0 0 (zA w LL.1 u.heap.size)) 5 [(2, .int (zI ((i : Int)))), (3, .int (zI ((n0 : Int)))), (0, .ref (w.1 h)), (1, .int (zI (v)))] [] (flS σ h i v)) (fun i hii ihi => ?_) 0 (Nat.zero_le _)
  show V p l e rm_ar_fill u m args below meth c 4 w LL CC 0 0 (MQ below (zQv w LL CC (flS σ h n0 v) u.heap.size) args u 0 0 (zA w LL.1 u.heap.size)) 5 [(2, .int (zI ((i : Int)))), (3, .int (zI ((n0 : Int)))), (0, .ref (w.1 h)), (1, .int (zI (v)))] [] (flS σ h i v)
  refine V_iload_n C d_ar_fill_5 0 rfl ?_
  refine V_iload_n C d_ar_fill_6 1 rfl ?_
  refine V_cmpge C 20 d_ar_fill_7 (by decide) ⟨by omega, by omega⟩ ⟨by omega, by omega⟩ (fun he => ?_) (fun he => ?_)
  · have hin : i = n0 := by omega
    subst hin
    exact V_vret C hr d_ar_fill_20 rfl
  · have hin : i < n0 := by omega
    refine V_aload_n C d_ar_fill_10 2 rfl ?_
    refine V_iload_n C d_ar_fill_11 0 rfl ?_
    refine V_iload_n C d_ar_fill_12 3 rfl ?_
    refine V_iast C h _ hh hd0 rfl (by omega) hn0 d_ar_fill_13 ?_
    rw [flS_step]
    refine V_iinc (lv' := [(2, _), (3, _), (0, _), (1, _)]) C d_ar_fill_14 0 rfl (by decide) rfl ?_
    refine V_goto C 5 d_ar_fill_17 (by decide) ?_
    refine V_sub (lv' := [(2, _), (3, _), (0, _), (1, _)]) [0, 1, 2, 3] rfl ?_
    exact ihi hin

set_option maxRecDepth 20000 in
set_option maxHeartbeats 4000000 in
theorem c_fd_take (l : Launch) (w : zW) (σ : Nat → Nat → Int) (n nv : Nat) (hT : tI σ n nv) (b : Nat) (hb : b < 2 ^ 63) : zMv l w LL CC g_fd_take rm_fd_take [.ref (w.1 25), .ref (w.1 1), .long (zL ((b : Int)))] σ (tkS σ n nv b) := by
  refine zMv.of g_fd_take (by decide +kernel) (Nat.le_of_ble_eq_true rfl) rfl ?_
  intro p e u m args below meth c C hr
  have C : zC p u m args meth c prog_2_method_4_code 5 "RoundPlans$Found" w LL CC := C
  have hr : meth.sig.returnType = none := hr
  obtain ⟨hn, hn7, hv, hv3, h2, h3, h4, h5, h6, h7, h8, h9, h10, h11, h12, h13, h14, h15, h16⟩ := id hT
  show V p l e rm_fd_take u m args below meth c 5 w LL CC 0 0 (MQ below (zQv w LL CC (tkS σ n nv b) u.heap.size) args u 0 0 (zA w LL.1 u.heap.size)) 0 [(0, .ref (w.1 25)), (1, .ref (w.1 1)), (2, .long (zL ((b : Int))))] [] σ
  refine V_aload_n C d_fd_take_0 0 rfl ?_
  refine V_aload_n C d_fd_take_1 1 rfl ?_
  refine V_geti C 1 0 (by decide) rfl rfl in_td (by decide) rfl wd_33 d_fd_take_2 ?_
  refine V_ti hn ?_
  refine V_put C 25 0 (by decide) rfl rfl in_fd ty_fd tk_fd nm_fd (by decide) rfl wd_161 rfl rfl rfl rfl d_fd_take_5 ?_
  refine V_aload_n C d_fd_take_8 0 rfl ?_
  refine V_aload_n C d_fd_take_9 1 rfl ?_
  refine V_geti C 1 1 (by decide) rfl rfl in_td (by decide) rfl wd_37 d_fd_take_10 ?_
  refine V_ti hv ?_
  refine V_put C 25 1 (by decide) rfl rfl in_fd ty_fd tk_fd nm_fd (by decide) rfl wd_162 rfl rfl rfl rfl d_fd_take_13 ?_
  refine V_aload_n C d_fd_take_16 0 rfl ?_
  refine V_lload_n C d_fd_take_17 2 rfl ?_
  refine V_callNl C (c_rp_costIn l w _ b hb) ns_0 wd_375 wd_1 wd_376 o_rp_costIn ⟨rfl, rfl, Nat.le_of_ble_eq_true rfl, Nat.le_of_ble_eq_true rfl⟩ rfl rfl (Nat.le_of_ble_eq_true rfl) d_fd_take_18 ⟨Nat.zero_le _, Nat.zero_le _⟩ ?_
  refine V_put C 25 2 (by decide) rfl rfl in_fd ty_fd tk_fd nm_fd (by decide) rfl wd_163 rfl rfl rfl rfl d_fd_take_21 ?_
  refine V_iconst C d_fd_take_24 ?_
  refine V_istore (lv' := [(4, _), (0, _), (1, _), (2, _)]) C d_fd_take_25 (by decide) rfl ?_
  refine V_sub (lv' := [(4, _), (0, _), (1, _), (2, _)]) [0, 1, 2, 3] rfl ?_
  refine loopUp (n := n) (P := fun i => V p l e rm_fd_take u m args below meth c 5 w LL CC 0 0 (MQ below (zQv w LL CC (tkS σ n nv b) u.heap.size) args u 0 0 (zA w LL.1 u.heap.size)) 27 [(4, .int (zI ((i : Int)))), (0, .ref (w.1 25)), (1, .ref (w.1 1)), (2, .long (zL ((b : Int))))] [] (tkL σ n nv b i)) (fun i hii ihi => ?_) 0 (Nat.zero_le _)
  show V p l e rm_fd_take u m args below meth c 5 w LL CC 0 0 (MQ below (zQv w LL CC (tkS σ n nv b) u.heap.size) args u 0 0 (zA w LL.1 u.heap.size)) 27 [(4, .int (zI ((i : Int)))), (0, .ref (w.1 25)), (1, .ref (w.1 1)), (2, .long (zL ((b : Int))))] [] (tkL σ n nv b i)
  refine V_iload C d_fd_take_27 0 rfl ?_
  refine V_aload_n C d_fd_take_29 1 rfl ?_
  refine V_geti C 25 0 (by decide) rfl rfl in_fd (by decide) rfl wd_161 d_fd_take_30 ?_
  refine V_ti (b := (n : Int)) (by rw [tkL_25]; rfl) ?_
  refine V_cmpge C 55 d_fd_take_33 (by decide) ⟨by omega, by omega⟩ ⟨by omega, by omega⟩ (fun he => ?_) (fun he => ?_)
  · have hin : i = n := by omega
    subst hin
    refine V_aload_n C d_fd_take_55 1 rfl ?_
    refine V_getr C 25 4 27 (by decide) rfl rfl in_fd (by decide) rfl wd_167 d_fd_take_56 ?_
    refine V_iconst C d_fd_take_59 ?_
    refine V_callSv C (c_ar_fill l w _ 27 7 (by decide) rfl (by decide) (-1)) wd_381 wd_27 wd_3 wd_28 o_ar_fill ⟨rfl, rfl, Nat.le_of_ble_eq_true rfl, Nat.le_of_ble_eq_true rfl⟩ rfl rfl (Nat.le_of_ble_eq_true rfl) d_fd_take_60 ⟨Nat.zero_le _, Nat.zero_le _⟩ ?_
    refine V_aload_n C d_fd_take_63 1 rfl ?_
    refine V_getr C 25 6 29 (by decide) rfl rfl in_fd (by decide) rfl wd_171 d_fd_take_64 ?_
    refine V_iconst C d_fd_take_67 ?_
    refine V_callSv C (c_ar_fill l w _ 29 3 (by decide) rfl (by decide) 0) wd_381 wd_27 wd_3 wd_28 o_ar_fill ⟨rfl, rfl, Nat.le_of_ble_eq_true rfl, Nat.le_of_ble_eq_true rfl⟩ rfl rfl (Nat.le_of_ble_eq_true rfl) d_fd_take_68 ⟨Nat.zero_le _, Nat.zero_le _⟩ ?_
    refine V_aload_n C d_fd_take_71 1 rfl ?_
    refine V_getr C 25 7 30 (by decide) rfl rfl in_fd (by decide) rfl wd_173 d_fd_take_72 ?_
    refine V_iconst C d_fd_take_75 ?_
    refine V_callSv C (c_ar_fill l w _ 30 3 (by decide) rfl (by decide) (-1)) wd_381 wd_27 wd_3 wd_28 o_ar_fill ⟨rfl, rfl, Nat.le_of_ble_eq_true rfl, Nat.le_of_ble_eq_true rfl⟩ rfl rfl (Nat.le_of_ble_eq_true rfl) d_fd_take_76 ⟨Nat.zero_le _, Nat.zero_le _⟩ ?_
    exact V_vret C hr d_fd_take_79 rfl
  · have hin : i < n := by omega
    refine V_aload_n C d_fd_take_36 1 rfl ?_
    refine V_getr C 25 3 26 (by decide) rfl rfl in_fd (by decide) rfl wd_165 d_fd_take_37 ?_
    refine V_iload C d_fd_take_40 0 rfl ?_
    refine V_lload_n C d_fd_take_42 3 rfl ?_
    refine V_iload C d_fd_take_43 0 rfl ?_
    refine V_callNi C (c_rp_vehicleIn l w _ b i hb (by omega)) ns_1 wd_378 wd_1 wd_379 o_rp_vehicleIn ⟨rfl, rfl, Nat.le_of_ble_eq_true rfl, Nat.le_of_ble_eq_true rfl⟩ rfl rfl (Nat.le_of_ble_eq_true rfl) d_fd_take_45 ⟨Nat.zero_le _, Nat.zero_le _⟩ ?_
    refine V_iast C 26 _ (by decide) rfl rfl (by omega) (by decide) d_fd_take_48 ?_
    refine V_iinc (lv' := [(4, _), (0, _), (1, _), (2, _)]) C d_fd_take_49 0 rfl (by decide) rfl ?_
    refine V_goto C 27 d_fd_take_52 (by decide) ?_
    refine V_sub (lv' := [(4, _), (0, _), (1, _), (2, _)]) [0, 1, 2, 3] rfl ?_
    exact ihi hin

set_option maxRecDepth 20000 in
set_option maxHeartbeats 4000000 in
theorem c_ig_bitCount (l : Launch) (w : zW) (σ : Nat → Nat → Int) (S : Nat) (hS : S < 128) : zMi l w LL CC g_ig_bitCount rm_ig_bitCount [.int (zI ((S : Int)))] σ (((cnt (fun i => S.testBit i) 7 : Nat) : Int)) (σ) := by
  refine zMi.of g_ig_bitCount (by decide +kernel) (Nat.le_of_ble_eq_true rfl) rfl ?_
  intro p e u m args below meth c C hr
  have C : zC p u m args meth c prog_8_method_49_code 1 "java/lang/Integer" w LL CC := C
  have hr : meth.sig.returnType = (some .int) := hr
  obtain ⟨e1, e2, e3, e4, e5, e6⟩ := bc_ok S hS
  show V p l e rm_ig_bitCount u m args below meth c 1 w LL CC 0 0 (MQ below (zQi w LL CC (((cnt (fun i => S.testBit i) 7 : Nat) : Int)) (σ) u.heap.size) args u 0 0 (zA w LL.1 u.heap.size)) 0 [(0, .int (zI ((S : Int))))] [] σ
  refine V_iload_n C d_ig_bitCount_0 0 rfl ?_
  refine V_iload_n C d_ig_bitCount_1 0 rfl ?_
  refine V_iconst C d_ig_bitCount_2 ?_
  refine V_iushr C (((S / 2 ^ 1 : Nat) : Int)) d_ig_bitCount_3 (zI_ushr (k := 1) (by omega) (by decide)) ?_
  refine V_ldcw C (1431655765) d_ig_bitCount_4 wd_412 ?_
  refine V_iand C (((S / 2 ^ 1 &&& 1431655765 : Nat) : Int)) d_ig_bitCount_7 (zI_and _ 1431655765) ?_
  refine V_isub C d_ig_bitCount_8 ?_
  refine V_ti (b := ((bc1 S : Nat) : Int)) (by unfold bc1; omega) ?_
  refine V_istore_n (lv' := [(0, _)]) C d_ig_bitCount_9 (by decide) rfl ?_
  refine V_iload_n C d_ig_bitCount_10 0 rfl ?_
  refine V_ldcw C (858993459) d_ig_bitCount_11 wd_413 ?_
  refine V_iand C (((bc1 S &&& 858993459 : Nat) : Int)) d_ig_bitCount_14 (zI_and _ 858993459) ?_
  refine V_iload_n C d_ig_bitCount_15 0 rfl ?_
  refine V_iconst C d_ig_bitCount_16 ?_
  refine V_iushr C (((bc1 S / 2 ^ 2 : Nat) : Int)) d_ig_bitCount_17 (zI_ushr (k := 2) (by omega) (by decide)) ?_
  refine V_ldcw C (858993459) d_ig_bitCount_18 wd_413 ?_
  refine V_iand C (((bc1 S / 2 ^ 2 &&& 858993459 : Nat) : Int)) d_ig_bitCount_21 (zI_and _ 858993459) ?_
  refine V_iadd C d_ig_bitCount_22 ?_
  refine V_ti (b := ((bc2 S : Nat) : Int)) (by unfold bc2; omega) ?_
  refine V_istore_n (lv' := [(0, _)]) C d_ig_bitCount_23 (by decide) rfl ?_
  refine V_iload_n C d_ig_bitCount_24 0 rfl ?_
  refine V_iload_n C d_ig_bitCount_25 0 rfl ?_
  refine V_iconst C d_ig_bitCount_26 ?_
  refine V_iushr C (((bc2 S / 2 ^ 4 : Nat) : Int)) d_ig_bitCount_27 (zI_ushr (k := 4) (by omega) (by decide)) ?_
  refine V_iadd C d_ig_bitCount_28 ?_
  refine V_ti (b := ((bc2 S + bc2 S / 2 ^ 4 : Nat) : Int)) (by omega) ?_
  refine V_ldcw C (252645135) d_ig_bitCount_29 wd_414 ?_
  refine V_iand C (((bc3 S : Nat) : Int)) d_ig_bitCount_32 (zI_and _ 252645135) ?_
  refine V_istore_n (lv' := [(0, _)]) C d_ig_bitCount_33 (by decide) rfl ?_
  refine V_iload_n C d_ig_bitCount_34 0 rfl ?_
  refine V_iload_n C d_ig_bitCount_35 0 rfl ?_
  refine V_bipush C d_ig_bitCount_36 (by decide) ?_
  refine V_iushr C (((bc3 S / 2 ^ 8 : Nat) : Int)) d_ig_bitCount_38 (zI_ushr (k := 8) (by omega) (by decide)) ?_
  refine V_iadd C d_ig_bitCount_39 ?_
  refine V_ti (b := ((bc4 S : Nat) : Int)) (by unfold bc4; omega) ?_
  refine V_istore_n (lv' := [(0, _)]) C d_ig_bitCount_40 (by decide) rfl ?_
  refine V_iload_n C d_ig_bitCount_41 0 rfl ?_
  refine V_iload_n C d_ig_bitCount_42 0 rfl ?_
  refine V_bipush C d_ig_bitCount_43 (by decide) ?_
  refine V_iushr C (((bc4 S / 2 ^ 16 : Nat) : Int)) d_ig_bitCount_45 (zI_ushr (k := 16) (by omega) (by decide)) ?_
  refine V_iadd C d_ig_bitCount_46 ?_
  refine V_ti (b := ((bc5 S : Nat) : Int)) (by unfold bc5; omega) ?_
  refine V_istore_n (lv' := [(0, _)]) C d_ig_bitCount_47 (by decide) rfl ?_
  refine V_iload_n C d_ig_bitCount_48 0 rfl ?_
  refine V_bipush C d_ig_bitCount_49 (by decide) ?_
  refine V_iand C (((bc5 S &&& 63 : Nat) : Int)) d_ig_bitCount_51 (zI_and _ 63) ?_
  exact V_iret C hr d_ig_bitCount_52 (by rw [e6]) rfl

set_option maxRecDepth 20000 in
set_option maxHeartbeats 4000000 in
theorem c_rp_run (l : Launch) (w : zW) (σ : Nat → Nat → Int) (n nv : Nat) (hT : tI σ n nv) (hR : bd σ 19 896 0 1073741824) (h18 : bd σ 18 384 0 1073741824) (hL : bd σ 20 896 (-1) 86399) (h22 : bd σ 22 384 (-1125899906842624) 1152921504606846976) (h23 : bd σ 23 128 0 1125899906842624) (b : Nat) (hb : b < 2 ^ 63) (hB : runB σ n nv (-1) = (b : Int)) (c0 : Nat → Nat) (hc : ∀ v, v < nv → c0 v < 2 ^ 63 ∧ runB σ n nv (v : Int) = (c0 v : Int)) : zMi l w LL CC g_rp_run rm_rp_run [.ref (w.1 0)] σ (((cnt (fun i => (siF b 3 n).testBit i) 7 : Nat) : Int)) (runF σ n nv b c0) := by
  refine zMi.of g_rp_run (by decide +kernel) (Nat.le_of_ble_eq_true rfl) rfl ?_
  intro p e u m args below meth c C hr
  have C : zC p u m args meth c prog_1_method_10_code 5 "RoundPlans" w LL CC := C
  have hr : meth.sig.returnType = (some .int) := hr
  obtain ⟨hn, hn7, hv, hv3, h2, h3, h4, h5, h6, h7, h8, h9, h10, h11, h12, h13, h14, h15, h16⟩ := id hT
  have hp := pow_n hn7
  have hT1 : tI (bkO σ n nv) n nv := hT.congr (fun k hk => bkO_ne (by omega) (by omega) nv)
  have k18 := bkO_18 hT hR h18 nv hv3
  have hT2 : tI (runS1 σ n nv) n nv := hT1.congr (fun k hk => fpO_ne (by omega) (by omega) _)
  have k22 : bd (runS1 σ n nv) 22 384 (-1125899906842624) 1152921504606846976 := fpO_22 hT1 k18 (by intro i hi; rw [bkO_ne (by decide) (by decide)]; exact h22 i hi) _ (by omega)
  have k23 : bd (runS1 σ n nv) 23 128 0 1125899906842624 := fpO_23 hT1 (by intro i hi; rw [bkO_ne (by decide) (by decide)]; exact h23 i hi) _
  have hT3 : tI (chV (runS1 σ n nv) (2 ^ n - 1) (-1) nv) n nv := hT2.congr (fun k hk => chV_ne (by omega) _)
  have hT4 : tI (tkS (chV (runS1 σ n nv) (2 ^ n - 1) (-1) nv) n nv b) n nv := hT3.congr (fun k hk => tkS_ne (by omega))
  have hTx : ∀ x, tI (rnL n nv b c0 (tkS (chV (runS1 σ n nv) (2 ^ n - 1) (-1) nv) n nv b) x) n nv := fun x => hT4.congr (fun k hk => rnL_ne (by omega) x)
  have e22 : ∀ x, rnL n nv b c0 (tkS (chV (runS1 σ n nv) (2 ^ n - 1) (-1) nv) n nv b) x 22 = runS1 σ n nv 22 := fun x => by rw [rnL_ne (by omega), tkS_ne (by omega), chV_ne (by decide)]
  have e23 : ∀ x, rnL n nv b c0 (tkS (chV (runS1 σ n nv) (2 ^ n - 1) (-1) nv) n nv b) x 23 = runS1 σ n nv 23 := fun x => by rw [rnL_ne (by omega), tkS_ne (by omega), chV_ne (by decide)]
  have m22 : ∀ x, bd (rnL n nv b c0 (tkS (chV (runS1 σ n nv) (2 ^ n - 1) (-1) nv) n nv b) x) 22 384 (-1125899906842624) 1152921504606846976 := fun x i hi => by rw [e22]; exact k22 i hi
  have m23 : ∀ x, bd (rnL n nv b c0 (tkS (chV (runS1 σ n nv) (2 ^ n - 1) (-1) nv) n nv b) x) 23 128 0 1125899906842624 := fun x i hi => by rw [e23]; exact k23 i hi
  have m20 : ∀ x, bd (rnL n nv b c0 (tkS (chV (runS1 σ n nv) (2 ^ n - 1) (-1) nv) n nv b) x) 20 896 (-1) 86399 := rnL_20 hT4 (by intro i hi; rw [tkS_ne (by omega), chV_ne (by decide)]; unfold runS1; rw [fpO_ne (by decide) (by decide), bkO_ne (by decide) (by decide)]; exact hL i hi)
  have m18 : ∀ x, bd (rnL n nv b c0 (tkS (chV (runS1 σ n nv) (2 ^ n - 1) (-1) nv) n nv b) x) 18 384 0 1073741824 := fun x i hi => by rw [rnL_ne (by omega), tkS_ne (by omega), chV_ne (by decide)]; unfold runS1; rw [fpO_ne (by decide) (by decide)]; exact k18 i hi
  have m29 : ∀ x, bd (rnL n nv b c0 (tkS (chV (runS1 σ n nv) (2 ^ n - 1) (-1) nv) n nv b) x) 29 3 0 7 := rnL_29 (by intro i hi; unfold tkS; rw [flS_ne (by decide)]; unfold flS; rw [zUA_self, if_pos hi]; decide)
  show V p l e rm_rp_run u m args below meth c 5 w LL CC 0 0 (MQ below (zQi w LL CC (((cnt (fun i => (siF b 3 n).testBit i) 7 : Nat) : Int)) (runF σ n nv b c0) u.heap.size) args u 0 0 (zA w LL.1 u.heap.size)) 0 [(0, .ref (w.1 0))] [] σ
  refine V_aload_n C d_rp_run_0 0 rfl ?_
  refine V_getr C 0 1 17 (by decide) rfl rfl in_rp (by decide) rfl wd_198 d_rp_run_1 ?_
  refine V_callVv C 17 (by decide) rfl rfl (c_rd_findBacks l w σ n nv hT hR) wd_296 wd_297 wd_298 wd_4 wd_299 o_rd_findBacks ⟨rfl, rfl, Nat.le_of_ble_eq_true rfl, Nat.le_of_ble_eq_true rfl⟩ rfl rfl (Nat.le_of_ble_eq_true rfl) d_rp_run_4 ⟨Nat.zero_le _, Nat.zero_le _⟩ ?_
  refine V_aload_n C d_rp_run_7 0 rfl ?_
  refine V_getr C 0 2 21 (by decide) rfl rfl in_rp (by decide) rfl wd_199 d_rp_run_8 ?_
  refine V_callVv C 21 (by decide) rfl rfl (c_pl_findPrices l w _ n nv hT1 k18) wd_325 wd_326 wd_327 wd_5 wd_328 o_pl_findPrices ⟨rfl, rfl, Nat.le_of_ble_eq_true rfl, Nat.le_of_ble_eq_true rfl⟩ rfl rfl (Nat.le_of_ble_eq_true rfl) d_rp_run_11 ⟨Nat.zero_le _, Nat.zero_le _⟩ ?_
  refine V_aload_n C d_rp_run_14 0 rfl ?_
  refine V_getr C 0 2 21 (by decide) rfl rfl in_rp (by decide) rfl wd_199 d_rp_run_15 ?_
  refine V_iconst C d_rp_run_18 ?_
  refine V_callVl C 21 (by decide) rfl rfl (c_pl_cheapest l w (runS1 σ n nv) n nv hT2 (-1) ⟨by decide, by decide⟩ k22 k23) wd_352 wd_353 wd_354 wd_5 wd_355 o_pl_cheapest ⟨rfl, rfl, Nat.le_of_ble_eq_true rfl, Nat.le_of_ble_eq_true rfl⟩ rfl rfl (Nat.le_of_ble_eq_true rfl) d_rp_run_19 ⟨Nat.zero_le _, Nat.zero_le _⟩ ?_
  refine V_tl hB ?_
  refine V_lstore_n (lv' := [(1, _), (0, _)]) C d_rp_run_22 (by decide) rfl ?_
  refine V_aload_n C d_rp_run_23 1 rfl ?_
  refine V_getr C 0 3 25 (by decide) rfl rfl in_rp (by decide) rfl wd_200 d_rp_run_24 ?_
  refine V_aload_n C d_rp_run_27 1 rfl ?_
  refine V_getr C 0 0 1 (by decide) rfl rfl in_rp (by decide) rfl wd_197 d_rp_run_28 ?_
  refine V_lload_n C d_rp_run_31 0 rfl ?_
  refine V_callVv C 25 (by decide) rfl rfl (c_fd_take l w _ n nv hT3 b hb) wd_370 wd_371 wd_372 wd_6 wd_373 o_fd_take ⟨rfl, rfl, Nat.le_of_ble_eq_true rfl, Nat.le_of_ble_eq_true rfl⟩ rfl rfl (Nat.le_of_ble_eq_true rfl) d_rp_run_32 ⟨Nat.zero_le _, Nat.zero_le _⟩ ?_
  refine V_iconst C d_rp_run_35 ?_
  refine V_istore_n (lv' := [(3, _), (1, _), (0, _)]) C d_rp_run_36 (by decide) rfl ?_
  refine V_sub (lv' := [(3, _), (1, _), (0, _)]) [0, 1, 2] rfl ?_
  refine loopUp (n := nv) (P := fun x => V p l e rm_rp_run u m args below meth c 5 w LL CC 0 0 (MQ below (zQi w LL CC (((cnt (fun i => (siF b 3 n).testBit i) 7 : Nat) : Int)) (runF σ n nv b c0) u.heap.size) args u 0 0 (zA w LL.1 u.heap.size)) 37 [(3, .int (zI ((x : Int)))), (1, .long (zL ((b : Int)))), (0, .ref (w.1 0))] [] (rnL n nv b c0 (tkS (chV (runS1 σ n nv) (2 ^ n - 1) (-1) nv) n nv b) x)) (fun x hix ihx => ?_) 0 (Nat.zero_le _)
  show V p l e rm_rp_run u m args below meth c 5 w LL CC 0 0 (MQ below (zQi w LL CC (((cnt (fun i => (siF b 3 n).testBit i) 7 : Nat) : Int)) (runF σ n nv b c0) u.heap.size) args u 0 0 (zA w LL.1 u.heap.size)) 37 [(3, .int (zI ((x : Int)))), (1, .long (zL ((b : Int)))), (0, .ref (w.1 0))] [] (rnL n nv b c0 (tkS (chV (runS1 σ n nv) (2 ^ n - 1) (-1) nv) n nv b) x)
  refine V_iload_n C d_rp_run_37 0 rfl ?_
  refine V_aload_n C d_rp_run_38 2 rfl ?_
  refine V_getr C 0 0 1 (by decide) rfl rfl in_rp (by decide) rfl wd_197 d_rp_run_39 ?_
  refine V_geti C 1 1 (by decide) rfl rfl in_td (by decide) rfl wd_38 d_rp_run_42 ?_
  refine V_ti (b := (nv : Int)) (hTx x).2.2.1 ?_
  refine V_cmpge C 115 d_rp_run_45 (by decide) ⟨by omega, by omega⟩ ⟨by omega, by omega⟩ (fun hx => ?_) (fun hx => ?_)
  · have hxx : x = nv := by omega
    refine V_lload_n C d_rp_run_115 1 rfl ?_
    refine V_iconst C d_rp_run_116 ?_
    refine V_aload_n C d_rp_run_117 2 rfl ?_
    refine V_getr C 0 0 1 (by decide) rfl rfl in_rp (by decide) rfl wd_197 d_rp_run_118 ?_
    refine V_geti C 1 0 (by decide) rfl rfl in_td (by decide) rfl wd_29 d_rp_run_121 ?_
    refine V_ti (b := (n : Int)) (hTx x).1 ?_
    refine V_callSi C (c_rp_setIn l w _ b 3 n hb (by decide) hn7) wd_383 wd_384 wd_1 wd_385 o_rp_setIn ⟨rfl, rfl, Nat.le_of_ble_eq_true rfl, Nat.le_of_ble_eq_true rfl⟩ rfl rfl (Nat.le_of_ble_eq_true rfl) d_rp_run_124 ⟨Nat.zero_le _, Nat.zero_le _⟩ ?_
    refine V_callSi C (c_ig_bitCount l w _ (siF b 3 n) (siF_lt hn7)) wd_409 wd_410 wd_10 wd_411 o_ig_bitCount ⟨rfl, rfl, Nat.le_of_ble_eq_true rfl, Nat.le_of_ble_eq_true rfl⟩ rfl rfl (Nat.le_of_ble_eq_true rfl) d_rp_run_127 ⟨Nat.zero_le _, Nat.zero_le _⟩ ?_
    exact V_iret C hr d_rp_run_130 rfl (by subst hxx; rfl)
  · have hxn : x < nv := by omega
    refine V_aload_n C d_rp_run_48 2 rfl ?_
    refine V_getr C 0 3 25 (by decide) rfl rfl in_rp (by decide) rfl wd_200 d_rp_run_49 ?_
    refine V_getr C 25 8 31 (by decide) rfl rfl in_fd (by decide) rfl wd_177 d_rp_run_52 ?_
    refine V_iload_n C d_rp_run_55 0 rfl ?_
    refine V_aload_n C d_rp_run_56 2 rfl ?_
    refine V_getr C 0 2 21 (by decide) rfl rfl in_rp (by decide) rfl wd_199 d_rp_run_57 ?_
    refine V_iload_n C d_rp_run_60 0 rfl ?_
    refine V_callVl C 21 (by decide) rfl rfl (c_pl_cheapest l w _ n nv (hTx x) (x : Int) ⟨by omega, by omega⟩ (m22 x) (m23 x)) wd_352 wd_353 wd_354 wd_5 wd_355 o_pl_cheapest ⟨rfl, rfl, Nat.le_of_ble_eq_true rfl, Nat.le_of_ble_eq_true rfl⟩ rfl rfl (Nat.le_of_ble_eq_true rfl) d_rp_run_61 ⟨Nat.zero_le _, Nat.zero_le _⟩ ?_
    refine V_tl (b := ((c0 x : Nat) : Int)) (by rw [chV_congr (σ := runS1 σ n nv) (by omega) (e22 x) (e23 x) nv _ (by omega)]; exact (hc x hxn).2) ?_
    refine V_callSl C (c_rp_costIn l w _ (c0 x) (hc x hxn).1) wd_382 wd_375 wd_1 wd_376 o_rp_costIn ⟨rfl, rfl, Nat.le_of_ble_eq_true rfl, Nat.le_of_ble_eq_true rfl⟩ rfl rfl (Nat.le_of_ble_eq_true rfl) d_rp_run_64 ⟨Nat.zero_le _, Nat.zero_le _⟩ ?_
    refine V_aload_n C d_rp_run_67 2 rfl ?_
    refine V_getr C 0 3 25 (by decide) rfl rfl in_rp (by decide) rfl wd_200 d_rp_run_68 ?_
    refine V_getl C 25 2 (by decide) rfl rfl in_fd (by decide) rfl wd_164 d_rp_run_71 ?_
    refine V_tl (b := ((b / 2 ^ 14 : Nat) : Int)) (by rw [chV_ne (by decide), rnL_ne (by omega), tkS_25]; rfl) ?_
    refine V_lsub C d_rp_run_74 ?_
    refine V_last C 31 _ (by decide) rfl rfl (by omega) (by decide) d_rp_run_75 ?_
    refine V_lload_n C d_rp_run_76 1 rfl ?_
    refine V_iload_n C d_rp_run_77 0 rfl ?_
    refine V_aload_n C d_rp_run_78 2 rfl ?_
    refine V_getr C 0 0 1 (by decide) rfl rfl in_rp (by decide) rfl wd_197 d_rp_run_79 ?_
    refine V_geti C 1 0 (by decide) rfl rfl in_td (by decide) rfl wd_29 d_rp_run_82 ?_
    refine V_ti (b := (n : Int)) (by rw [zU_ne (by decide), chV_ne (by decide)]; exact (hTx x).1) ?_
    refine V_callSi C (c_rp_setIn l w _ b x n hb (by omega) hn7) wd_383 wd_384 wd_1 wd_385 o_rp_setIn ⟨rfl, rfl, Nat.le_of_ble_eq_true rfl, Nat.le_of_ble_eq_true rfl⟩ rfl rfl (Nat.le_of_ble_eq_true rfl) d_rp_run_85 ⟨Nat.zero_le _, Nat.zero_le _⟩ ?_
    have hsi := siF_lt (p := b) (v := x) hn7
    refine V_istore (lv' := [(4, _), (3, _), (1, _), (0, _)]) C d_rp_run_88 (by decide) rfl ?_
    refine V_iload C d_rp_run_90 0 rfl ?_
    refine V_ifeq C 109 d_rp_run_92 (by decide) ⟨by omega, by omega⟩ (fun g0 => ?_) (fun g0 => ?_)
    · refine V_iinc (lv' := [(3, _), (4, _), (1, _), (0, _)]) C d_rp_run_109 1 rfl (by decide) rfl ?_
      refine V_goto C 37 d_rp_run_112 (by decide) ?_
      refine V_sub (lv' := [(3, _), (1, _), (0, _)]) [0, 2, 3] rfl ?_
      have h99 := ihx hxn
      unfold rnL at h99
      first | (rw [if_pos (by omega)] at h99; exact h99) | (rw [if_neg (by omega)] at h99; exact h99)
    · refine V_aload_n C d_rp_run_95 3 rfl ?_
      refine V_getr C 0 1 17 (by decide) rfl rfl in_rp (by decide) rfl wd_198 d_rp_run_96 ?_
      refine V_iload_n C d_rp_run_99 1 rfl ?_
      refine V_iload C d_rp_run_100 0 rfl ?_
      refine V_aload_n C d_rp_run_102 3 rfl ?_
      refine V_getr C 0 3 25 (by decide) rfl rfl in_rp (by decide) rfl wd_200 d_rp_run_103 ?_
      refine V_callVv C 17 (by decide) rfl rfl (c_rd_drive l w _ n nv ((hTx x).congr (fun k hk => by rw [zU_ne (by omega), chV_ne (by omega)])) (by intro i hi; rw [zU_ne (by decide), chV_ne (by decide)]; exact m20 x i hi) x (siF b x n) (by omega) (by omega) (by intro i hi; rw [zU_ne (by decide), chV_ne (by decide)]; exact m18 x i hi) (by intro i hi; rw [zU_ne (by decide), chV_ne (by decide)]; exact m29 x i hi)) wd_388 wd_389 wd_390 wd_4 wd_391 o_rd_drive ⟨rfl, rfl, Nat.le_of_ble_eq_true rfl, Nat.le_of_ble_eq_true rfl⟩ rfl rfl (Nat.le_of_ble_eq_true rfl) d_rp_run_106 ⟨Nat.zero_le _, Nat.zero_le _⟩ ?_
      refine V_iinc (lv' := [(3, _), (4, _), (1, _), (0, _)]) C d_rp_run_109 1 rfl (by decide) rfl ?_
      refine V_goto C 37 d_rp_run_112 (by decide) ?_
      refine V_sub (lv' := [(3, _), (1, _), (0, _)]) [0, 2, 3] rfl ?_
      have h99 := ihx hxn
      unfold rnL at h99
      first | (rw [if_pos (by omega)] at h99; exact h99) | (rw [if_neg (by omega)] at h99; exact h99)
end
section
/-! THE REFERENCE'S STATE -/
def mI (σ : Nat → Nat → Int) (n nv : Nat) : Prop := σ 32 0 = (n : Int) ∧ n ≤ 7 ∧ σ 32 9 = (nv : Int) ∧ nv ≤ 3 ∧ bd σ 33 7 0 100000 ∧ bd σ 34 7 0 86399 ∧ bd σ 35 7 0 86399 ∧ bd σ 36 7 0 10000 ∧ bd σ 37 7 0 1000000000 ∧ bd σ 38 7 (-1) 2 ∧ bd σ 39 49 0 1 ∧ bd σ 40 49 0 1 ∧ bd σ 41 3 0 1000000 ∧ bd σ 42 3 0 86399 ∧ bd σ 43 3 0 86399 ∧ bd σ 44 3 0 1000 ∧ bd σ 45 64 0 50000
theorem mI.congr {σ σ' : Nat → Nat → Int} {n nv : Nat} (h : mI σ n nv) (e0 : σ' 32 0 = σ 32 0) (e9 : σ' 32 9 = σ 32 9) (e : ∀ k, 33 ≤ k → k ≤ 45 → σ' k = σ k) : mI σ' n nv := by
  unfold mI bd at h ⊢
  simp only [e0, e9, e 33 (by omega) (by omega), e 34 (by omega) (by omega), e 35 (by omega) (by omega), e 36 (by omega) (by omega), e 37 (by omega) (by omega), e 38 (by omega) (by omega), e 39 (by omega) (by omega), e 40 (by omega) (by omega), e 41 (by omega) (by omega), e 42 (by omega) (by omega), e 43 (by omega) (by omega), e 44 (by omega) (by omega), e 45 (by omega) (by omega)]
  exact h
/-- leads -/
def ldY (σ : Nat → Nat → Int) (x S : Nat) : Nat → Nat
  | 0 => S
  | y + 1 => if σ 40 (7 * x + y) ≠ 0 then wi (ldY σ x S y) y else ldY σ x S y
def ldX (σ : Nat → Nat → Int) (n S : Nat) : Nat → Nat
  | 0 => S
  | x + 1 => if (ldX σ n S x).testBit x = true then ldY σ x (ldX σ n S x) n else ldX σ n S x
def ldT (σ : Nat → Nat → Int) (n S : Nat) : Nat → Nat
  | 0 => S
  | t + 1 => ldX σ n (ldT σ n S t) n
theorem wi_128 {S s : Nat} (hS : S < 128) (hs : s < 7) : wi S s < 128 := by
  refine Nat.lt_pow_two_of_testBit (n := 7) _ (fun i hi => ?_)
  rw [wi_bit, Nat.testBit_lt_two_pow (Nat.lt_of_lt_of_le hS (show 128 ≤ 2 ^ i from Nat.le_trans (by decide : 128 ≤ 2 ^ 7) (Nat.pow_le_pow_right (by decide) hi)))]
  simp; omega
theorem ldY_128 {σ : Nat → Nat → Int} {x S : Nat} (hS : S < 128) : ∀ y, y ≤ 7 → ldY σ x S y < 128
  | 0, _ => hS
  | y + 1, hy => by
    have ih := ldY_128 (σ := σ) (x := x) hS y (by omega)
    unfold ldY
    split
    · exact wi_128 ih (by omega)
    · exact ih
theorem ldY_mono {σ : Nat → Nat → Int} {x S i : Nat} (h : S.testBit i = true) : ∀ y, (ldY σ x S y).testBit i = true
  | 0 => h
  | y + 1 => by
    have ih := ldY_mono (σ := σ) (x := x) h y
    unfold ldY
    split
    · rw [wi_bit, ih]; rfl
    · exact ih
theorem ldX_128 {σ : Nat → Nat → Int} {n S : Nat} (hn : n ≤ 7) (hS : S < 128) : ∀ x, ldX σ n S x < 128
  | 0 => hS
  | x + 1 => by
    have ih := ldX_128 (σ := σ) hn hS x
    unfold ldX
    split
    · exact ldY_128 ih n hn
    · exact ih
theorem ldT_128 {σ : Nat → Nat → Int} {n S : Nat} (hn : n ≤ 7) (hS : S < 128) : ∀ t, ldT σ n S t < 128
  | 0 => hS
  | t + 1 => ldX_128 hn (ldT_128 hn hS t) n
def ldP (σ : Nat → Nat → Int) (x S y : Nat) : Nat := if S.testBit x = true then ldY σ x S y else S
theorem ldP_128 {σ : Nat → Nat → Int} {x S y : Nat} (hS : S < 128) (hy : y ≤ 7) : ldP σ x S y < 128 := by
  unfold ldP
  split
  · exact ldY_128 hS y hy
  · exact hS
theorem ldP_bit {σ : Nat → Nat → Int} {x S y : Nat} : (ldP σ x S y).testBit x = S.testBit x := by
  unfold ldP
  split
  · rename_i h; rw [ldY_mono h y, h]
  · rfl
theorem ldP_t {σ : Nat → Nat → Int} {x S y : Nat} (h : (ldP σ x S y).testBit x = true) (h1 : σ 40 (7 * x + y) ≠ 0) : ldP σ x S (y + 1) = wi (ldP σ x S y) y := by
  rw [ldP_bit] at h
  unfold ldP
  rw [if_pos h, if_pos h, ldY, if_pos h1]
theorem ldP_f {σ : Nat → Nat → Int} {x S y : Nat} (h : (ldP σ x S y).testBit x = true) (h1 : σ 40 (7 * x + y) = 0) : ldP σ x S (y + 1) = ldP σ x S y := by
  rw [ldP_bit] at h
  unfold ldP
  rw [if_pos h, if_pos h, ldY, if_neg (fun z => z h1)]
theorem ldP_out {σ : Nat → Nat → Int} {x S y n : Nat} (h : ¬ (ldP σ x S y).testBit x = true) : ldP σ x S y = ldP σ x S n := by
  rw [ldP_bit] at h
  unfold ldP
  rw [if_neg h, if_neg h]
theorem ldX_s {σ : Nat → Nat → Int} {n S x : Nat} : ldP σ x (ldX σ n S x) n = ldX σ n S (x + 1) := by
  rw [ldX]; rfl
theorem tb_1 {S s : Nat} : ((S / 2 ^ s &&& 1 : Nat) : Int) = 1 ↔ S.testBit s = true := by
  have h := tb_0 (S := S) (s := s)
  have hle : S / 2 ^ s &&& 1 ≤ 1 := Nat.and_le_right
  constructor
  · intro h1
    exact Decidable.byContradiction (fun z => by have := h.mpr z; omega)
  · intro h1
    have : ¬ ((S / 2 ^ s &&& 1 : Nat) : Int) = 0 := fun z => (h.mp z) h1
    omega
theorem wi_or0 (S : Nat) : S ||| 0 = S := Nat.or_zero S
end
section
/-! the reference's calls but run -/
set_option maxRecDepth 20000 in
set_option maxHeartbeats 4000000 in
theorem c_md_isIn (l : Launch) (w : zW) (σ : Nat → Nat → Int) (v a b : Int) (hv : rL v) (ha : rL a) (hb : rL b) : zMi l w LL CC g_md_isIn rm_md_isIn [.long (zL (v)), .long (zL (a)), .long (zL (b))] σ (zB (a ≤ v ∧ v ≤ b)) (σ) := by
  refine zMi.of g_md_isIn (by decide +kernel) (Nat.le_of_ble_eq_true rfl) rfl ?_
  intro p e u m args below meth c C hr
  have C : zC p u m args meth c prog_7_method_3_code 6 "RoundPlansModel" w LL CC := C
  have hr : meth.sig.returnType = (some .boolean) := hr
  obtain ⟨hv1, hv2⟩ := id hv
  obtain ⟨ha1, ha2⟩ := id ha
  obtain ⟨hb1, hb2⟩ := id hb
  show V p l e rm_md_isIn u m args below meth c 6 w LL CC 0 0 (MQ below (zQi w LL CC (zB (a ≤ v ∧ v ≤ b)) (σ) u.heap.size) args u 0 0 (zA w LL.1 u.heap.size)) 0 [(0, .long (zL (v))), (2, .long (zL (a))), (4, .long (zL (b)))] [] σ
  refine V_lload_n C d_md_isIn_0 0 rfl ?_
  refine V_lload_n C d_md_isIn_1 1 rfl ?_
  refine V_lcmp C d_md_isIn_2 hv ha ?_
  refine V_iflt C 17 d_md_isIn_3 (by decide) (by split; exact rI_1; split; exact rI_0; exact ⟨by decide, by decide⟩) (fun c1 => ?_) (fun c1 => ?_)
  · have c1 : v < a := by split at c1; omega; split at c1 <;> omega
    refine V_iconst C d_md_isIn_17 ?_
    exact V_zret C hr d_md_isIn_18 (by decide) (by first | exact zB_t (by omega) | exact zB_f (by omega)) rfl
  · have c1 : a ≤ v := by split at c1; omega; split at c1 <;> omega
    refine V_lload_n C d_md_isIn_6 0 rfl ?_
    refine V_lload C d_md_isIn_7 2 rfl ?_
    refine V_lcmp C d_md_isIn_9 hv hb ?_
    refine V_ifgt C 17 d_md_isIn_10 (by decide) (by split; exact rI_1; split; exact rI_0; exact ⟨by decide, by decide⟩) (fun c2 => ?_) (fun c2 => ?_)
    · have c2 : b < v := by split at c2; omega; split at c2 <;> omega
      refine V_iconst C d_md_isIn_17 ?_
      exact V_zret C hr d_md_isIn_18 (by decide) (by first | exact zB_t (by omega) | exact zB_f (by omega)) rfl
    · have c2 : v ≤ b := by split at c2; omega; split at c2 <;> omega
      refine V_iconst C d_md_isIn_13 ?_
      refine V_goto C 18 d_md_isIn_14 (by decide) ?_
      exact V_zret C hr d_md_isIn_18 (by decide) (by first | exact zB_t (by omega) | exact zB_f (by omega)) rfl

set_option maxRecDepth 20000 in
set_option maxHeartbeats 4000000 in
theorem c_md_isStop (l : Launch) (w : zW) (σ : Nat → Nat → Int) (k : Int) (hk : rI k) (n : Nat) (hn : σ 32 0 = (n : Int)) (hn7 : n ≤ 7) : zMi l w LL CC g_md_isStop rm_md_isStop [.ref (w.1 32), .int (zI (k))] σ (zB (0 ≤ k ∧ k < n)) (σ) := by
  refine zMi.of g_md_isStop (by decide +kernel) (Nat.le_of_ble_eq_true rfl) rfl ?_
  intro p e u m args below meth c C hr
  have C : zC p u m args meth c prog_7_method_4_code 2 "RoundPlansModel" w LL CC := C
  have hr : meth.sig.returnType = (some .boolean) := hr
  obtain ⟨hk1, hk2⟩ := id hk
  show V p l e rm_md_isStop u m args below meth c 2 w LL CC 0 0 (MQ below (zQi w LL CC (zB (0 ≤ k ∧ k < n)) (σ) u.heap.size) args u 0 0 (zA w LL.1 u.heap.size)) 0 [(0, .ref (w.1 32)), (1, .int (zI (k)))] [] σ
  refine V_iload_n C d_md_isStop_0 1 rfl ?_
  refine V_iflt C 16 d_md_isStop_1 (by decide) ⟨by omega, by omega⟩ (fun h1 => ?_) (fun h1 => ?_)
  · refine V_iconst C d_md_isStop_16 ?_
    exact V_zret C hr d_md_isStop_17 (by decide) (by first | exact zB_t (by omega) | exact zB_f (by omega)) rfl
  · refine V_iload_n C d_md_isStop_4 1 rfl ?_
    refine V_aload_n C d_md_isStop_5 0 rfl ?_
    refine V_geti C 32 0 (by decide) rfl rfl in_md (by decide) rfl wd_454 d_md_isStop_6 ?_
    refine V_ti hn ?_
    refine V_cmpge C 16 d_md_isStop_9 (by decide) ⟨by omega, by omega⟩ ⟨by omega, by omega⟩ (fun h2 => ?_) (fun h2 => ?_)
    · refine V_iconst C d_md_isStop_16 ?_
      exact V_zret C hr d_md_isStop_17 (by decide) (by first | exact zB_t (by omega) | exact zB_f (by omega)) rfl
    · refine V_iconst C d_md_isStop_12 ?_
      refine V_goto C 17 d_md_isStop_13 (by decide) ?_
      exact V_zret C hr d_md_isStop_17 (by decide) (by first | exact zB_t (by omega) | exact zB_f (by omega)) rfl

set_option maxRecDepth 20000 in
set_option maxHeartbeats 4000000 in
theorem c_md_arePair (l : Launch) (w : zW) (σ : Nat → Nat → Int) (a b : Int) (ha : rI a) (hb : rI b) (n : Nat) (hn : σ 32 0 = (n : Int)) (hn7 : n ≤ 7) : zMi l w LL CC g_md_arePair rm_md_arePair [.ref (w.1 32), .int (zI (a)), .int (zI (b))] σ (zB (0 ≤ a ∧ a < n ∧ 0 ≤ b ∧ b < n ∧ a ≠ b)) (σ) := by
  refine zMi.of g_md_arePair (by decide +kernel) (Nat.le_of_ble_eq_true rfl) rfl ?_
  intro p e u m args below meth c C hr
  have C : zC p u m args meth c prog_7_method_5_code 3 "RoundPlansModel" w LL CC := C
  have hr : meth.sig.returnType = (some .boolean) := hr
  obtain ⟨ha1, ha2⟩ := id ha
  obtain ⟨hb1, hb2⟩ := id hb
  show V p l e rm_md_arePair u m args below meth c 3 w LL CC 0 0 (MQ below (zQi w LL CC (zB (0 ≤ a ∧ a < n ∧ 0 ≤ b ∧ b < n ∧ a ≠ b)) (σ) u.heap.size) args u 0 0 (zA w LL.1 u.heap.size)) 0 [(0, .ref (w.1 32)), (1, .int (zI (a))), (2, .int (zI (b)))] [] σ
  refine V_aload_n C d_md_arePair_0 0 rfl ?_
  refine V_iload_n C d_md_arePair_1 1 rfl ?_
  refine V_callVi C 32 (by decide) rfl rfl (c_md_isStop l w σ a ha n hn hn7) wd_553 wd_555 ws_11 wd_7 wd_556 o_md_isStop ⟨rfl, rfl, Nat.le_of_ble_eq_true rfl, Nat.le_of_ble_eq_true rfl⟩ rfl rfl (Nat.le_of_ble_eq_true rfl) d_md_arePair_2 ⟨Nat.zero_le _, Nat.zero_le _⟩ ?_
  refine V_ifeqB C 25 d_md_arePair_5 (by decide) (fun h1 => ?_) (fun h1 => ?_)
  · refine V_iconst C d_md_arePair_25 ?_
    exact V_zret C hr d_md_arePair_26 (by decide) (by first | exact zB_t (by omega) | exact zB_f (by omega)) rfl
  · refine V_aload_n C d_md_arePair_8 0 rfl ?_
    refine V_iload_n C d_md_arePair_9 2 rfl ?_
    refine V_callVi C 32 (by decide) rfl rfl (c_md_isStop l w σ b hb n hn hn7) wd_553 wd_555 ws_11 wd_7 wd_556 o_md_isStop ⟨rfl, rfl, Nat.le_of_ble_eq_true rfl, Nat.le_of_ble_eq_true rfl⟩ rfl rfl (Nat.le_of_ble_eq_true rfl) d_md_arePair_10 ⟨Nat.zero_le _, Nat.zero_le _⟩ ?_
    refine V_ifeqB C 25 d_md_arePair_13 (by decide) (fun h2 => ?_) (fun h2 => ?_)
    · refine V_iconst C d_md_arePair_25 ?_
      exact V_zret C hr d_md_arePair_26 (by decide) (by first | exact zB_t (by omega) | exact zB_f (by omega)) rfl
    · refine V_iload_n C d_md_arePair_16 1 rfl ?_
      refine V_iload_n C d_md_arePair_17 2 rfl ?_
      refine V_cmpeq C 25 d_md_arePair_18 (by decide) ⟨by omega, by omega⟩ ⟨by omega, by omega⟩ (fun h3 => ?_) (fun h3 => ?_)
      · refine V_iconst C d_md_arePair_25 ?_
        exact V_zret C hr d_md_arePair_26 (by decide) (by first | exact zB_t (by omega) | exact zB_f (by omega)) rfl
      · refine V_iconst C d_md_arePair_21 ?_
        refine V_goto C 26 d_md_arePair_22 (by decide) ?_
        exact V_zret C hr d_md_arePair_26 (by decide) (by first | exact zB_t (by omega) | exact zB_f (by omega)) rfl

set_option maxRecDepth 20000 in
set_option maxHeartbeats 4000000 in
theorem c_md_stop (l : Launch) (w : zW) (σ : Nat → Nat → Int) (k : Int) (hk : rI k) (n : Nat) (hn : σ 32 0 = (n : Int)) (hn7 : n ≤ 7) : zMi l w LL CC g_md_stop rm_md_stop [.ref (w.1 32), .int (zI (k))] σ (if n < 7 ∧ 0 ≤ k ∧ k ≤ 100000 then (n : Int) else -1) (if n < 7 ∧ 0 ≤ k ∧ k ≤ 100000 then zU (zU (zU (zU σ 33 n k) 35 n 86399) 38 n (-1)) 32 0 (n + 1) else σ) := by
  refine zMi.of g_md_stop (by decide +kernel) (Nat.le_of_ble_eq_true rfl) rfl ?_
  intro p e u m args below meth c C hr
  have C : zC p u m args meth c prog_7_method_6_code 2 "RoundPlansModel" w LL CC := C
  have hr : meth.sig.returnType = (some .int) := hr
  obtain ⟨hk1, hk2⟩ := id hk
  show V p l e rm_md_stop u m args below meth c 2 w LL CC 0 0 (MQ below (zQi w LL CC (if n < 7 ∧ 0 ≤ k ∧ k ≤ 100000 then (n : Int) else -1) (if n < 7 ∧ 0 ≤ k ∧ k ≤ 100000 then zU (zU (zU (zU σ 33 n k) 35 n 86399) 38 n (-1)) 32 0 (n + 1) else σ) u.heap.size) args u 0 0 (zA w LL.1 u.heap.size)) 0 [(0, .ref (w.1 32)), (1, .int (zI (k)))] [] σ
  refine V_aload_n C d_md_stop_0 0 rfl ?_
  refine V_geti C 32 0 (by decide) rfl rfl in_md (by decide) rfl wd_454 d_md_stop_1 ?_
  refine V_ti hn ?_
  refine V_bipush C d_md_stop_4 (by decide) ?_
  refine V_cmpeq C 21 d_md_stop_6 (by decide) ⟨by omega, by omega⟩ ⟨by omega, by omega⟩ (fun h1 => ?_) (fun h1 => ?_)
  · refine V_iconst C d_md_stop_21 ?_
    exact V_iret C hr d_md_stop_22 (by rw [if_neg (by omega)]) (by rw [if_neg (by omega)])
  · refine V_iload_n C d_md_stop_9 1 rfl ?_
    refine V_i2l C d_md_stop_10 ⟨by omega, by omega⟩ ?_
    refine V_lconst C 0 d_md_stop_11 rfl ?_
    refine V_ldc2 C (100000) d_md_stop_12 wd_544 ?_
    refine V_callSi C (c_md_isIn l w σ (k) (0) (100000) ⟨by omega, by omega⟩ ⟨by omega, by omega⟩ ⟨by omega, by omega⟩) wd_545 wd_546 wd_7 wd_547 o_md_isIn ⟨rfl, rfl, Nat.le_of_ble_eq_true rfl, Nat.le_of_ble_eq_true rfl⟩ rfl rfl (Nat.le_of_ble_eq_true rfl) d_md_stop_15 ⟨Nat.zero_le _, Nat.zero_le _⟩ ?_
    refine V_ifneB C 23 d_md_stop_18 (by decide) (fun h2 => ?_) (fun h2 => ?_)
    · refine V_aload_n C d_md_stop_23 0 rfl ?_
      refine V_getr C 32 1 33 (by decide) rfl rfl in_md (by decide) rfl wd_455 d_md_stop_24 ?_
      refine V_aload_n C d_md_stop_27 0 rfl ?_
      refine V_geti C 32 0 (by decide) rfl rfl in_md (by decide) rfl wd_454 d_md_stop_28 ?_
      refine V_ti hn ?_
      refine V_iload_n C d_md_stop_31 1 rfl ?_
      refine V_iast C 33 _ (by decide) rfl rfl (by omega) (by decide) d_md_stop_32 ?_
      refine V_aload_n C d_md_stop_33 0 rfl ?_
      refine V_getr C 32 3 35 (by decide) rfl rfl in_md (by decide) rfl wd_457 d_md_stop_34 ?_
      refine V_aload_n C d_md_stop_37 0 rfl ?_
      refine V_geti C 32 0 (by decide) rfl rfl in_md (by decide) rfl wd_454 d_md_stop_38 ?_
      refine V_ti (b := (n : Int)) hn ?_
      refine V_ldc C (86399) d_md_stop_41 wd_548 ?_
      refine V_iast C 35 _ (by decide) rfl rfl (by omega) (by decide) d_md_stop_43 ?_
      refine V_aload_n C d_md_stop_44 0 rfl ?_
      refine V_getr C 32 6 38 (by decide) rfl rfl in_md (by decide) rfl wd_460 d_md_stop_45 ?_
      refine V_aload_n C d_md_stop_48 0 rfl ?_
      refine V_geti C 32 0 (by decide) rfl rfl in_md (by decide) rfl wd_454 d_md_stop_49 ?_
      refine V_ti (b := (n : Int)) hn ?_
      refine V_iconst C d_md_stop_52 ?_
      refine V_iast C 38 _ (by decide) rfl rfl (by omega) (by decide) d_md_stop_53 ?_
      refine V_aload_n C d_md_stop_54 0 rfl ?_
      refine V_dup C d_md_stop_55 rfl ?_
      refine V_geti C 32 0 (by decide) rfl rfl in_md (by decide) rfl wd_454 d_md_stop_56 ?_
      refine V_ti (b := (n : Int)) hn ?_
      refine V_iconst C d_md_stop_59 ?_
      refine V_iadd C d_md_stop_60 ?_
      refine V_put C 32 0 (by decide) rfl rfl in_md ty_md tk_md nm_md (by decide) rfl wd_454 rfl rfl rfl rfl d_md_stop_61 ?_
      refine V_aload_n C d_md_stop_64 0 rfl ?_
      refine V_geti C 32 0 (by decide) rfl rfl in_md (by decide) rfl wd_454 d_md_stop_65 ?_
      refine V_ti (b := (n : Int) + 1) zU_self ?_
      refine V_iconst C d_md_stop_68 ?_
      refine V_isub C d_md_stop_69 ?_
      exact V_iret C hr d_md_stop_70 (by rw [if_pos (by omega)]; omega) (by rw [if_pos (by omega)])
    · refine V_iconst C d_md_stop_21 ?_
      exact V_iret C hr d_md_stop_22 (by rw [if_neg (by omega)]) (by rw [if_neg (by omega)])

set_option maxRecDepth 20000 in
set_option maxHeartbeats 4000000 in
theorem c_md_hours (l : Launch) (w : zW) (σ : Nat → Nat → Int) (k f g q : Int) (hk : rI k) (hf : rI f) (hg : rI g) (hq : rI q) (n : Nat) (hn : σ 32 0 = (n : Int)) (hn7 : n ≤ 7) : zMi l w LL CC g_md_hours rm_md_hours [.ref (w.1 32), .int (zI (k)), .int (zI (f)), .int (zI (g)), .int (zI (q))] σ (zB (0 ≤ k ∧ k < n ∧ 0 ≤ f ∧ f ≤ g ∧ g ≤ 86399 ∧ 0 ≤ q ∧ q ≤ 10000)) (if 0 ≤ k ∧ k < n ∧ 0 ≤ f ∧ f ≤ g ∧ g ≤ 86399 ∧ 0 ≤ q ∧ q ≤ 10000 then zU (zU (zU σ 34 k.toNat f) 35 k.toNat g) 36 k.toNat q else σ) := by
  refine zMi.of g_md_hours (by decide +kernel) (Nat.le_of_ble_eq_true rfl) rfl ?_
  intro p e u m args below meth c C hr
  have C : zC p u m args meth c prog_7_method_7_code 5 "RoundPlansModel" w LL CC := C
  have hr : meth.sig.returnType = (some .boolean) := hr
  obtain ⟨hk1, hk2⟩ := id hk
  obtain ⟨hf1, hf2⟩ := id hf
  obtain ⟨hg1, hg2⟩ := id hg
  obtain ⟨hq1, hq2⟩ := id hq
  show V p l e rm_md_hours u m args below meth c 5 w LL CC 0 0 (MQ below (zQi w LL CC (zB (0 ≤ k ∧ k < n ∧ 0 ≤ f ∧ f ≤ g ∧ g ≤ 86399 ∧ 0 ≤ q ∧ q ≤ 10000)) (if 0 ≤ k ∧ k < n ∧ 0 ≤ f ∧ f ≤ g ∧ g ≤ 86399 ∧ 0 ≤ q ∧ q ≤ 10000 then zU (zU (zU σ 34 k.toNat f) 35 k.toNat g) 36 k.toNat q else σ) u.heap.size) args u 0 0 (zA w LL.1 u.heap.size)) 0 [(0, .ref (w.1 32)), (1, .int (zI (k))), (2, .int (zI (f))), (3, .int (zI (g))), (4, .int (zI (q)))] [] σ
  refine V_aload_n C d_md_hours_0 0 rfl ?_
  refine V_iload_n C d_md_hours_1 1 rfl ?_
  refine V_callVi C 32 (by decide) rfl rfl (c_md_isStop l w σ k hk n hn hn7) wd_553 wd_555 ws_11 wd_7 wd_556 o_md_isStop ⟨rfl, rfl, Nat.le_of_ble_eq_true rfl, Nat.le_of_ble_eq_true rfl⟩ rfl rfl (Nat.le_of_ble_eq_true rfl) d_md_hours_2 ⟨Nat.zero_le _, Nat.zero_le _⟩ ?_
  refine V_ifeqB C 46 d_md_hours_5 (by decide) (fun h1 => ?_) (fun h1 => ?_)
  · refine V_iconst C d_md_hours_46 ?_
    exact V_zret C hr d_md_hours_47 (by decide) (zB_f (by omega)) (by rw [if_neg (by omega)])
  · refine V_iload_n C d_md_hours_8 2 rfl ?_
    refine V_i2l C d_md_hours_9 ⟨by omega, by omega⟩ ?_
    refine V_lconst C 0 d_md_hours_10 rfl ?_
    refine V_ldc2 C (86399) d_md_hours_11 wd_557 ?_
    refine V_callSi C (c_md_isIn l w σ (f) (0) (86399) ⟨by omega, by omega⟩ ⟨by omega, by omega⟩ ⟨by omega, by omega⟩) wd_545 wd_546 wd_7 wd_547 o_md_isIn ⟨rfl, rfl, Nat.le_of_ble_eq_true rfl, Nat.le_of_ble_eq_true rfl⟩ rfl rfl (Nat.le_of_ble_eq_true rfl) d_md_hours_14 ⟨Nat.zero_le _, Nat.zero_le _⟩ ?_
    refine V_ifeqB C 46 d_md_hours_17 (by decide) (fun h2 => ?_) (fun h2 => ?_)
    · refine V_iconst C d_md_hours_46 ?_
      exact V_zret C hr d_md_hours_47 (by decide) (zB_f (by omega)) (by rw [if_neg (by omega)])
    · refine V_iload_n C d_md_hours_20 3 rfl ?_
      refine V_i2l C d_md_hours_21 ⟨by omega, by omega⟩ ?_
      refine V_iload_n C d_md_hours_22 2 rfl ?_
      refine V_i2l C d_md_hours_23 ⟨by omega, by omega⟩ ?_
      refine V_ldc2 C (86399) d_md_hours_24 wd_557 ?_
      refine V_callSi C (c_md_isIn l w σ (g) (f) (86399) ⟨by omega, by omega⟩ ⟨by omega, by omega⟩ ⟨by omega, by omega⟩) wd_545 wd_546 wd_7 wd_547 o_md_isIn ⟨rfl, rfl, Nat.le_of_ble_eq_true rfl, Nat.le_of_ble_eq_true rfl⟩ rfl rfl (Nat.le_of_ble_eq_true rfl) d_md_hours_27 ⟨Nat.zero_le _, Nat.zero_le _⟩ ?_
      refine V_ifeqB C 46 d_md_hours_30 (by decide) (fun h3 => ?_) (fun h3 => ?_)
      · refine V_iconst C d_md_hours_46 ?_
        exact V_zret C hr d_md_hours_47 (by decide) (zB_f (by omega)) (by rw [if_neg (by omega)])
      · refine V_iload C d_md_hours_33 4 rfl ?_
        refine V_i2l C d_md_hours_35 ⟨by omega, by omega⟩ ?_
        refine V_lconst C 0 d_md_hours_36 rfl ?_
        refine V_ldc2 C (10000) d_md_hours_37 wd_558 ?_
        refine V_callSi C (c_md_isIn l w σ (q) (0) (10000) ⟨by omega, by omega⟩ ⟨by omega, by omega⟩ ⟨by omega, by omega⟩) wd_545 wd_546 wd_7 wd_547 o_md_isIn ⟨rfl, rfl, Nat.le_of_ble_eq_true rfl, Nat.le_of_ble_eq_true rfl⟩ rfl rfl (Nat.le_of_ble_eq_true rfl) d_md_hours_40 ⟨Nat.zero_le _, Nat.zero_le _⟩ ?_
        refine V_ifneB C 48 d_md_hours_43 (by decide) (fun h4 => ?_) (fun h4 => ?_)
        · obtain ⟨i, rfl⟩ : ∃ i : Nat, k = (i : Int) := ⟨k.toNat, by omega⟩
          refine V_aload_n C d_md_hours_48 0 rfl ?_
          refine V_getr C 32 2 34 (by decide) rfl rfl in_md (by decide) rfl wd_456 d_md_hours_49 ?_
          refine V_iload_n C d_md_hours_52 1 rfl ?_
          refine V_iload_n C d_md_hours_53 2 rfl ?_
          refine V_iast C 34 _ (by decide) rfl rfl (by omega) (by decide) d_md_hours_54 ?_
          refine V_aload_n C d_md_hours_55 0 rfl ?_
          refine V_getr C 32 3 35 (by decide) rfl rfl in_md (by decide) rfl wd_457 d_md_hours_56 ?_
          refine V_iload_n C d_md_hours_59 1 rfl ?_
          refine V_iload_n C d_md_hours_60 3 rfl ?_
          refine V_iast C 35 _ (by decide) rfl rfl (by omega) (by decide) d_md_hours_61 ?_
          refine V_aload_n C d_md_hours_62 0 rfl ?_
          refine V_getr C 32 4 36 (by decide) rfl rfl in_md (by decide) rfl wd_458 d_md_hours_63 ?_
          refine V_iload_n C d_md_hours_66 1 rfl ?_
          refine V_iload C d_md_hours_67 4 rfl ?_
          refine V_iast C 36 _ (by decide) rfl rfl (by omega) (by decide) d_md_hours_69 ?_
          refine V_iconst C d_md_hours_70 ?_
          exact V_zret C hr d_md_hours_71 (by decide) (zB_t (by omega)) (by rw [if_pos (by omega)]; rfl)
        · refine V_iconst C d_md_hours_46 ?_
          exact V_zret C hr d_md_hours_47 (by decide) (zB_f (by omega)) (by rw [if_neg (by omega)])

set_option maxRecDepth 20000 in
set_option maxHeartbeats 4000000 in
theorem c_md_penalty (l : Launch) (w : zW) (σ : Nat → Nat → Int) (k c0 : Int) (hk : rI k) (hc : rL c0) (n : Nat) (hn : σ 32 0 = (n : Int)) (hn7 : n ≤ 7) : zMi l w LL CC g_md_penalty rm_md_penalty [.ref (w.1 32), .int (zI (k)), .long (zL (c0))] σ (zB (0 ≤ k ∧ k < n ∧ 0 ≤ c0 ∧ c0 ≤ 1000000000)) (if 0 ≤ k ∧ k < n ∧ 0 ≤ c0 ∧ c0 ≤ 1000000000 then zU σ 37 k.toNat c0 else σ) := by
  refine zMi.of g_md_penalty (by decide +kernel) (Nat.le_of_ble_eq_true rfl) rfl ?_
  intro p e u m args below meth c C hr
  have C : zC p u m args meth c prog_7_method_8_code 4 "RoundPlansModel" w LL CC := C
  have hr : meth.sig.returnType = (some .boolean) := hr
  obtain ⟨hk1, hk2⟩ := id hk
  obtain ⟨hc1, hc2⟩ := id hc
  show V p l e rm_md_penalty u m args below meth c 4 w LL CC 0 0 (MQ below (zQi w LL CC (zB (0 ≤ k ∧ k < n ∧ 0 ≤ c0 ∧ c0 ≤ 1000000000)) (if 0 ≤ k ∧ k < n ∧ 0 ≤ c0 ∧ c0 ≤ 1000000000 then zU σ 37 k.toNat c0 else σ) u.heap.size) args u 0 0 (zA w LL.1 u.heap.size)) 0 [(0, .ref (w.1 32)), (1, .int (zI (k))), (2, .long (zL (c0)))] [] σ
  refine V_aload_n C d_md_penalty_0 0 rfl ?_
  refine V_iload_n C d_md_penalty_1 1 rfl ?_
  refine V_callVi C 32 (by decide) rfl rfl (c_md_isStop l w σ k hk n hn hn7) wd_553 wd_555 ws_11 wd_7 wd_556 o_md_isStop ⟨rfl, rfl, Nat.le_of_ble_eq_true rfl, Nat.le_of_ble_eq_true rfl⟩ rfl rfl (Nat.le_of_ble_eq_true rfl) d_md_penalty_2 ⟨Nat.zero_le _, Nat.zero_le _⟩ ?_
  refine V_ifeqB C 19 d_md_penalty_5 (by decide) (fun h1 => ?_) (fun h1 => ?_)
  · refine V_iconst C d_md_penalty_19 ?_
    exact V_zret C hr d_md_penalty_20 (by decide) (zB_f (by omega)) (by rw [if_neg (by omega)])
  · refine V_lload_n C d_md_penalty_8 2 rfl ?_
    refine V_lconst C 0 d_md_penalty_9 rfl ?_
    refine V_ldc2 C (1000000000) d_md_penalty_10 wd_563 ?_
    refine V_callSi C (c_md_isIn l w σ (c0) (0) (1000000000) ⟨by omega, by omega⟩ ⟨by omega, by omega⟩ ⟨by omega, by omega⟩) wd_545 wd_546 wd_7 wd_547 o_md_isIn ⟨rfl, rfl, Nat.le_of_ble_eq_true rfl, Nat.le_of_ble_eq_true rfl⟩ rfl rfl (Nat.le_of_ble_eq_true rfl) d_md_penalty_13 ⟨Nat.zero_le _, Nat.zero_le _⟩ ?_
    refine V_ifneB C 21 d_md_penalty_16 (by decide) (fun h2 => ?_) (fun h2 => ?_)
    · obtain ⟨i, rfl⟩ : ∃ i : Nat, k = (i : Int) := ⟨k.toNat, by omega⟩
      refine V_aload_n C d_md_penalty_21 0 rfl ?_
      refine V_getr C 32 5 37 (by decide) rfl rfl in_md (by decide) rfl wd_459 d_md_penalty_22 ?_
      refine V_iload_n C d_md_penalty_25 1 rfl ?_
      refine V_lload_n C d_md_penalty_26 2 rfl ?_
      refine V_last C 37 _ (by decide) rfl rfl (by omega) (by decide) d_md_penalty_27 ?_
      refine V_iconst C d_md_penalty_28 ?_
      exact V_zret C hr d_md_penalty_29 (by decide) (zB_t (by omega)) (by rw [if_pos (by omega)]; rfl)
    · refine V_iconst C d_md_penalty_19 ?_
      exact V_zret C hr d_md_penalty_20 (by decide) (zB_f (by omega)) (by rw [if_neg (by omega)])

set_option maxRecDepth 20000 in
set_option maxHeartbeats 4000000 in
theorem c_md_vehicle (l : Launch) (w : zW) (σ : Nat → Nat → Int) (a b d r : Int) (ha : rI a) (hb : rI b) (hd : rI d) (hq : rI r) (nv : Nat) (hv : σ 32 9 = (nv : Int)) (hv3 : nv ≤ 3) : zMi l w LL CC g_md_vehicle rm_md_vehicle [.ref (w.1 32), .int (zI (a)), .int (zI (b)), .int (zI (d)), .int (zI (r))] σ (if nv < 3 ∧ 0 ≤ a ∧ a ≤ 1000000 ∧ 0 ≤ b ∧ b ≤ d ∧ d ≤ 86399 ∧ 0 ≤ r ∧ r ≤ 1000 then (nv : Int) else -1) (if nv < 3 ∧ 0 ≤ a ∧ a ≤ 1000000 ∧ 0 ≤ b ∧ b ≤ d ∧ d ≤ 86399 ∧ 0 ≤ r ∧ r ≤ 1000 then zU (zU (zU (zU (zU σ 41 nv a) 42 nv b) 43 nv d) 44 nv r) 32 9 (nv + 1) else σ) := by
  refine zMi.of g_md_vehicle (by decide +kernel) (Nat.le_of_ble_eq_true rfl) rfl ?_
  intro p e u m args below meth c C hr
  have C : zC p u m args meth c prog_7_method_9_code 5 "RoundPlansModel" w LL CC := C
  have hr : meth.sig.returnType = (some .int) := hr
  obtain ⟨ha1, ha2⟩ := id ha
  obtain ⟨hb1, hb2⟩ := id hb
  obtain ⟨hd1, hd2⟩ := id hd
  obtain ⟨hq1, hq2⟩ := id hq
  show V p l e rm_md_vehicle u m args below meth c 5 w LL CC 0 0 (MQ below (zQi w LL CC (if nv < 3 ∧ 0 ≤ a ∧ a ≤ 1000000 ∧ 0 ≤ b ∧ b ≤ d ∧ d ≤ 86399 ∧ 0 ≤ r ∧ r ≤ 1000 then (nv : Int) else -1) (if nv < 3 ∧ 0 ≤ a ∧ a ≤ 1000000 ∧ 0 ≤ b ∧ b ≤ d ∧ d ≤ 86399 ∧ 0 ≤ r ∧ r ≤ 1000 then zU (zU (zU (zU (zU σ 41 nv a) 42 nv b) 43 nv d) 44 nv r) 32 9 (nv + 1) else σ) u.heap.size) args u 0 0 (zA w LL.1 u.heap.size)) 0 [(0, .ref (w.1 32)), (1, .int (zI (a))), (2, .int (zI (b))), (3, .int (zI (d))), (4, .int (zI (r)))] [] σ
  refine V_aload_n C d_md_vehicle_0 0 rfl ?_
  refine V_geti C 32 9 (by decide) rfl rfl in_md (by decide) rfl wd_463 d_md_vehicle_1 ?_
  refine V_ti hv ?_
  refine V_iconst C d_md_vehicle_4 ?_
  refine V_cmpeq C 58 d_md_vehicle_5 (by decide) ⟨by omega, by omega⟩ ⟨by omega, by omega⟩ (fun h1 => ?_) (fun h1 => ?_)
  · refine V_iconst C d_md_vehicle_58 ?_
    exact V_iret C hr d_md_vehicle_59 (by rw [if_neg (by omega)]) (by rw [if_neg (by omega)])
  · refine V_iload_n C d_md_vehicle_8 1 rfl ?_
    refine V_i2l C d_md_vehicle_9 ⟨by omega, by omega⟩ ?_
    refine V_lconst C 0 d_md_vehicle_10 rfl ?_
    refine V_ldc2 C (1000000) d_md_vehicle_11 wd_568 ?_
    refine V_callSi C (c_md_isIn l w σ (a) (0) (1000000) ⟨by omega, by omega⟩ ⟨by omega, by omega⟩ ⟨by omega, by omega⟩) wd_545 wd_546 wd_7 wd_547 o_md_isIn ⟨rfl, rfl, Nat.le_of_ble_eq_true rfl, Nat.le_of_ble_eq_true rfl⟩ rfl rfl (Nat.le_of_ble_eq_true rfl) d_md_vehicle_14 ⟨Nat.zero_le _, Nat.zero_le _⟩ ?_
    refine V_ifeqB C 58 d_md_vehicle_17 (by decide) (fun h2 => ?_) (fun h2 => ?_)
    · refine V_iconst C d_md_vehicle_58 ?_
      exact V_iret C hr d_md_vehicle_59 (by rw [if_neg (by omega)]) (by rw [if_neg (by omega)])
    · refine V_iload_n C d_md_vehicle_20 2 rfl ?_
      refine V_i2l C d_md_vehicle_21 ⟨by omega, by omega⟩ ?_
      refine V_lconst C 0 d_md_vehicle_22 rfl ?_
      refine V_ldc2 C (86399) d_md_vehicle_23 wd_557 ?_
      refine V_callSi C (c_md_isIn l w σ (b) (0) (86399) ⟨by omega, by omega⟩ ⟨by omega, by omega⟩ ⟨by omega, by omega⟩) wd_545 wd_546 wd_7 wd_547 o_md_isIn ⟨rfl, rfl, Nat.le_of_ble_eq_true rfl, Nat.le_of_ble_eq_true rfl⟩ rfl rfl (Nat.le_of_ble_eq_true rfl) d_md_vehicle_26 ⟨Nat.zero_le _, Nat.zero_le _⟩ ?_
      refine V_ifeqB C 58 d_md_vehicle_29 (by decide) (fun h3 => ?_) (fun h3 => ?_)
      · refine V_iconst C d_md_vehicle_58 ?_
        exact V_iret C hr d_md_vehicle_59 (by rw [if_neg (by omega)]) (by rw [if_neg (by omega)])
      · refine V_iload_n C d_md_vehicle_32 3 rfl ?_
        refine V_i2l C d_md_vehicle_33 ⟨by omega, by omega⟩ ?_
        refine V_iload_n C d_md_vehicle_34 2 rfl ?_
        refine V_i2l C d_md_vehicle_35 ⟨by omega, by omega⟩ ?_
        refine V_ldc2 C (86399) d_md_vehicle_36 wd_557 ?_
        refine V_callSi C (c_md_isIn l w σ (d) (b) (86399) ⟨by omega, by omega⟩ ⟨by omega, by omega⟩ ⟨by omega, by omega⟩) wd_545 wd_546 wd_7 wd_547 o_md_isIn ⟨rfl, rfl, Nat.le_of_ble_eq_true rfl, Nat.le_of_ble_eq_true rfl⟩ rfl rfl (Nat.le_of_ble_eq_true rfl) d_md_vehicle_39 ⟨Nat.zero_le _, Nat.zero_le _⟩ ?_
        refine V_ifeqB C 58 d_md_vehicle_42 (by decide) (fun h4 => ?_) (fun h4 => ?_)
        · refine V_iconst C d_md_vehicle_58 ?_
          exact V_iret C hr d_md_vehicle_59 (by rw [if_neg (by omega)]) (by rw [if_neg (by omega)])
        · refine V_iload C d_md_vehicle_45 4 rfl ?_
          refine V_i2l C d_md_vehicle_47 ⟨by omega, by omega⟩ ?_
          refine V_lconst C 0 d_md_vehicle_48 rfl ?_
          refine V_ldc2 C (1000) d_md_vehicle_49 wd_569 ?_
          refine V_callSi C (c_md_isIn l w σ (r) (0) (1000) ⟨by omega, by omega⟩ ⟨by omega, by omega⟩ ⟨by omega, by omega⟩) wd_545 wd_546 wd_7 wd_547 o_md_isIn ⟨rfl, rfl, Nat.le_of_ble_eq_true rfl, Nat.le_of_ble_eq_true rfl⟩ rfl rfl (Nat.le_of_ble_eq_true rfl) d_md_vehicle_52 ⟨Nat.zero_le _, Nat.zero_le _⟩ ?_
          refine V_ifneB C 60 d_md_vehicle_55 (by decide) (fun h5 => ?_) (fun h5 => ?_)
          · refine V_aload_n C d_md_vehicle_60 0 rfl ?_
            refine V_getr C 32 10 41 (by decide) rfl rfl in_md (by decide) rfl wd_464 d_md_vehicle_61 ?_
            refine V_aload_n C d_md_vehicle_64 0 rfl ?_
            refine V_geti C 32 9 (by decide) rfl rfl in_md (by decide) rfl wd_463 d_md_vehicle_65 ?_
            refine V_ti (b := (nv : Int)) hv ?_
            refine V_iload_n C d_md_vehicle_68 1 rfl ?_
            refine V_iast C 41 _ (by decide) rfl rfl (by omega) (by decide) d_md_vehicle_69 ?_
            refine V_aload_n C d_md_vehicle_70 0 rfl ?_
            refine V_getr C 32 11 42 (by decide) rfl rfl in_md (by decide) rfl wd_465 d_md_vehicle_71 ?_
            refine V_aload_n C d_md_vehicle_74 0 rfl ?_
            refine V_geti C 32 9 (by decide) rfl rfl in_md (by decide) rfl wd_463 d_md_vehicle_75 ?_
            refine V_ti (b := (nv : Int)) hv ?_
            refine V_iload_n C d_md_vehicle_78 2 rfl ?_
            refine V_iast C 42 _ (by decide) rfl rfl (by omega) (by decide) d_md_vehicle_79 ?_
            refine V_aload_n C d_md_vehicle_80 0 rfl ?_
            refine V_getr C 32 12 43 (by decide) rfl rfl in_md (by decide) rfl wd_466 d_md_vehicle_81 ?_
            refine V_aload_n C d_md_vehicle_84 0 rfl ?_
            refine V_geti C 32 9 (by decide) rfl rfl in_md (by decide) rfl wd_463 d_md_vehicle_85 ?_
            refine V_ti (b := (nv : Int)) hv ?_
            refine V_iload_n C d_md_vehicle_88 3 rfl ?_
            refine V_iast C 43 _ (by decide) rfl rfl (by omega) (by decide) d_md_vehicle_89 ?_
            refine V_aload_n C d_md_vehicle_90 0 rfl ?_
            refine V_getr C 32 13 44 (by decide) rfl rfl in_md (by decide) rfl wd_467 d_md_vehicle_91 ?_
            refine V_aload_n C d_md_vehicle_94 0 rfl ?_
            refine V_geti C 32 9 (by decide) rfl rfl in_md (by decide) rfl wd_463 d_md_vehicle_95 ?_
            refine V_ti (b := (nv : Int)) hv ?_
            refine V_iload C d_md_vehicle_98 4 rfl ?_
            refine V_iast C 44 _ (by decide) rfl rfl (by omega) (by decide) d_md_vehicle_100 ?_
            refine V_aload_n C d_md_vehicle_101 0 rfl ?_
            refine V_dup C d_md_vehicle_102 rfl ?_
            refine V_geti C 32 9 (by decide) rfl rfl in_md (by decide) rfl wd_463 d_md_vehicle_103 ?_
            refine V_ti (b := (nv : Int)) hv ?_
            refine V_iconst C d_md_vehicle_106 ?_
            refine V_iadd C d_md_vehicle_107 ?_
            refine V_put C 32 9 (by decide) rfl rfl in_md ty_md tk_md nm_md (by decide) rfl wd_463 rfl rfl rfl rfl d_md_vehicle_108 ?_
            refine V_aload_n C d_md_vehicle_111 0 rfl ?_
            refine V_geti C 32 9 (by decide) rfl rfl in_md (by decide) rfl wd_463 d_md_vehicle_112 ?_
            refine V_ti (b := (nv : Int) + 1) zU_self ?_
            refine V_iconst C d_md_vehicle_115 ?_
            refine V_isub C d_md_vehicle_116 ?_
            exact V_iret C hr d_md_vehicle_117 (by rw [if_pos (by omega)]; omega) (by rw [if_pos (by omega)])
          · refine V_iconst C d_md_vehicle_58 ?_
            exact V_iret C hr d_md_vehicle_59 (by rw [if_neg (by omega)]) (by rw [if_neg (by omega)])

set_option maxRecDepth 20000 in
set_option maxHeartbeats 4000000 in
theorem c_md_way (l : Launch) (w : zW) (σ : Nat → Nat → Int) (a b q : Int) (ha : rI a) (hb : rI b) (hq : rI q) : zMi l w LL CC g_md_way rm_md_way [.ref (w.1 32), .int (zI (a)), .int (zI (b)), .int (zI (q))] σ (zB (0 ≤ a ∧ a ≤ 7 ∧ 0 ≤ b ∧ b ≤ 7 ∧ a ≠ b ∧ 0 ≤ q ∧ q ≤ 50000)) (if 0 ≤ a ∧ a ≤ 7 ∧ 0 ≤ b ∧ b ≤ 7 ∧ a ≠ b ∧ 0 ≤ q ∧ q ≤ 50000 then zU σ 45 (8 * a.toNat + b.toNat) q else σ) := by
  refine zMi.of g_md_way (by decide +kernel) (Nat.le_of_ble_eq_true rfl) rfl ?_
  intro p e u m args below meth c C hr
  have C : zC p u m args meth c prog_7_method_10_code 4 "RoundPlansModel" w LL CC := C
  have hr : meth.sig.returnType = (some .boolean) := hr
  obtain ⟨ha1, ha2⟩ := id ha
  obtain ⟨hb1, hb2⟩ := id hb
  obtain ⟨hq1, hq2⟩ := id hq
  show V p l e rm_md_way u m args below meth c 4 w LL CC 0 0 (MQ below (zQi w LL CC (zB (0 ≤ a ∧ a ≤ 7 ∧ 0 ≤ b ∧ b ≤ 7 ∧ a ≠ b ∧ 0 ≤ q ∧ q ≤ 50000)) (if 0 ≤ a ∧ a ≤ 7 ∧ 0 ≤ b ∧ b ≤ 7 ∧ a ≠ b ∧ 0 ≤ q ∧ q ≤ 50000 then zU σ 45 (8 * a.toNat + b.toNat) q else σ) u.heap.size) args u 0 0 (zA w LL.1 u.heap.size)) 0 [(0, .ref (w.1 32)), (1, .int (zI (a))), (2, .int (zI (b))), (3, .int (zI (q)))] [] σ
  refine V_iload_n C d_md_way_0 1 rfl ?_
  refine V_i2l C d_md_way_1 ⟨by omega, by omega⟩ ?_
  refine V_lconst C 0 d_md_way_2 rfl ?_
  refine V_ldc2 C (7) d_md_way_3 wd_574 ?_
  refine V_callSi C (c_md_isIn l w σ (a) (0) (7) ⟨by omega, by omega⟩ ⟨by omega, by omega⟩ ⟨by omega, by omega⟩) wd_545 wd_546 wd_7 wd_547 o_md_isIn ⟨rfl, rfl, Nat.le_of_ble_eq_true rfl, Nat.le_of_ble_eq_true rfl⟩ rfl rfl (Nat.le_of_ble_eq_true rfl) d_md_way_6 ⟨Nat.zero_le _, Nat.zero_le _⟩ ?_
  refine V_ifeqB C 41 d_md_way_9 (by decide) (fun h1 => ?_) (fun h1 => ?_)
  · refine V_iconst C d_md_way_41 ?_
    exact V_zret C hr d_md_way_42 (by decide) (zB_f (by omega)) (by rw [if_neg (by omega)])
  · refine V_iload_n C d_md_way_12 2 rfl ?_
    refine V_i2l C d_md_way_13 ⟨by omega, by omega⟩ ?_
    refine V_lconst C 0 d_md_way_14 rfl ?_
    refine V_ldc2 C (7) d_md_way_15 wd_574 ?_
    refine V_callSi C (c_md_isIn l w σ (b) (0) (7) ⟨by omega, by omega⟩ ⟨by omega, by omega⟩ ⟨by omega, by omega⟩) wd_545 wd_546 wd_7 wd_547 o_md_isIn ⟨rfl, rfl, Nat.le_of_ble_eq_true rfl, Nat.le_of_ble_eq_true rfl⟩ rfl rfl (Nat.le_of_ble_eq_true rfl) d_md_way_18 ⟨Nat.zero_le _, Nat.zero_le _⟩ ?_
    refine V_ifeqB C 41 d_md_way_21 (by decide) (fun h2 => ?_) (fun h2 => ?_)
    · refine V_iconst C d_md_way_41 ?_
      exact V_zret C hr d_md_way_42 (by decide) (zB_f (by omega)) (by rw [if_neg (by omega)])
    · refine V_iload_n C d_md_way_24 1 rfl ?_
      refine V_iload_n C d_md_way_25 2 rfl ?_
      refine V_cmpeq C 41 d_md_way_26 (by decide) ⟨by omega, by omega⟩ ⟨by omega, by omega⟩ (fun h3 => ?_) (fun h3 => ?_)
      · refine V_iconst C d_md_way_41 ?_
        exact V_zret C hr d_md_way_42 (by decide) (zB_f (by omega)) (by rw [if_neg (by omega)])
      · refine V_iload_n C d_md_way_29 3 rfl ?_
        refine V_i2l C d_md_way_30 ⟨by omega, by omega⟩ ?_
        refine V_lconst C 0 d_md_way_31 rfl ?_
        refine V_ldc2 C (50000) d_md_way_32 wd_575 ?_
        refine V_callSi C (c_md_isIn l w σ (q) (0) (50000) ⟨by omega, by omega⟩ ⟨by omega, by omega⟩ ⟨by omega, by omega⟩) wd_545 wd_546 wd_7 wd_547 o_md_isIn ⟨rfl, rfl, Nat.le_of_ble_eq_true rfl, Nat.le_of_ble_eq_true rfl⟩ rfl rfl (Nat.le_of_ble_eq_true rfl) d_md_way_35 ⟨Nat.zero_le _, Nat.zero_le _⟩ ?_
        refine V_ifneB C 43 d_md_way_38 (by decide) (fun h4 => ?_) (fun h4 => ?_)
        · obtain ⟨i, rfl⟩ : ∃ i : Nat, a = (i : Int) := ⟨a.toNat, by omega⟩
          obtain ⟨j, rfl⟩ : ∃ j : Nat, b = (j : Int) := ⟨b.toNat, by omega⟩
          refine V_aload_n C d_md_way_43 0 rfl ?_
          refine V_getr C 32 14 45 (by decide) rfl rfl in_md (by decide) rfl wd_468 d_md_way_44 ?_
          refine V_bipush C d_md_way_47 (by decide) ?_
          refine V_iload_n C d_md_way_49 1 rfl ?_
          refine V_imul C d_md_way_50 ?_
          refine V_iload_n C d_md_way_51 2 rfl ?_
          refine V_iadd C d_md_way_52 ?_
          refine V_iload_n C d_md_way_53 3 rfl ?_
          refine V_iast C 45 (8 * i + j) (by decide) rfl (by omega) (by omega) (by decide) d_md_way_54 ?_
          refine V_iconst C d_md_way_55 ?_
          exact V_zret C hr d_md_way_56 (by decide) (zB_t (by omega)) (by rw [if_pos (by omega)]; rfl)
        · refine V_iconst C d_md_way_41 ?_
          exact V_zret C hr d_md_way_42 (by decide) (zB_f (by omega)) (by rw [if_neg (by omega)])

set_option maxRecDepth 20000 in
set_option maxHeartbeats 4000000 in
theorem c_md_fixed (l : Launch) (w : zW) (σ : Nat → Nat → Int) (k v : Int) (hk : rI k) (hq : rI v) (n : Nat) (hn : σ 32 0 = (n : Int)) (hn7 : n ≤ 7) (nv : Nat) (hv : σ 32 9 = (nv : Int)) (hv3 : nv ≤ 3) : zMi l w LL CC g_md_fixed rm_md_fixed [.ref (w.1 32), .int (zI (k)), .int (zI (v))] σ (zB (0 ≤ k ∧ k < n ∧ -1 ≤ v ∧ v < nv)) (if 0 ≤ k ∧ k < n ∧ -1 ≤ v ∧ v < nv then zU σ 38 k.toNat v else σ) := by
  refine zMi.of g_md_fixed (by decide +kernel) (Nat.le_of_ble_eq_true rfl) rfl ?_
  intro p e u m args below meth c C hr
  have C : zC p u m args meth c prog_7_method_11_code 3 "RoundPlansModel" w LL CC := C
  have hr : meth.sig.returnType = (some .boolean) := hr
  obtain ⟨hk1, hk2⟩ := id hk
  obtain ⟨hq1, hq2⟩ := id hq
  show V p l e rm_md_fixed u m args below meth c 3 w LL CC 0 0 (MQ below (zQi w LL CC (zB (0 ≤ k ∧ k < n ∧ -1 ≤ v ∧ v < nv)) (if 0 ≤ k ∧ k < n ∧ -1 ≤ v ∧ v < nv then zU σ 38 k.toNat v else σ) u.heap.size) args u 0 0 (zA w LL.1 u.heap.size)) 0 [(0, .ref (w.1 32)), (1, .int (zI (k))), (2, .int (zI (v)))] [] σ
  refine V_aload_n C d_md_fixed_0 0 rfl ?_
  refine V_iload_n C d_md_fixed_1 1 rfl ?_
  refine V_callVi C 32 (by decide) rfl rfl (c_md_isStop l w σ k hk n hn hn7) wd_553 wd_555 ws_11 wd_7 wd_556 o_md_isStop ⟨rfl, rfl, Nat.le_of_ble_eq_true rfl, Nat.le_of_ble_eq_true rfl⟩ rfl rfl (Nat.le_of_ble_eq_true rfl) d_md_fixed_2 ⟨Nat.zero_le _, Nat.zero_le _⟩ ?_
  refine V_ifeqB C 21 d_md_fixed_5 (by decide) (fun h1 => ?_) (fun h1 => ?_)
  · refine V_iconst C d_md_fixed_21 ?_
    exact V_zret C hr d_md_fixed_22 (by decide) (zB_f (by omega)) (by rw [if_neg (by omega)])
  · refine V_iload_n C d_md_fixed_8 2 rfl ?_
    refine V_iconst C d_md_fixed_9 ?_
    refine V_cmplt C 21 d_md_fixed_10 (by decide) ⟨by omega, by omega⟩ ⟨by omega, by omega⟩ (fun h2 => ?_) (fun h2 => ?_)
    · refine V_iconst C d_md_fixed_21 ?_
      exact V_zret C hr d_md_fixed_22 (by decide) (zB_f (by omega)) (by rw [if_neg (by omega)])
    · refine V_iload_n C d_md_fixed_13 2 rfl ?_
      refine V_aload_n C d_md_fixed_14 0 rfl ?_
      refine V_geti C 32 9 (by decide) rfl rfl in_md (by decide) rfl wd_463 d_md_fixed_15 ?_
      refine V_ti hv ?_
      refine V_cmplt C 23 d_md_fixed_18 (by decide) ⟨by omega, by omega⟩ ⟨by omega, by omega⟩ (fun h3 => ?_) (fun h3 => ?_)
      · obtain ⟨i, rfl⟩ : ∃ i : Nat, k = (i : Int) := ⟨k.toNat, by omega⟩
        refine V_aload_n C d_md_fixed_23 0 rfl ?_
        refine V_getr C 32 6 38 (by decide) rfl rfl in_md (by decide) rfl wd_460 d_md_fixed_24 ?_
        refine V_iload_n C d_md_fixed_27 1 rfl ?_
        refine V_iload_n C d_md_fixed_28 2 rfl ?_
        refine V_iast C 38 _ (by decide) rfl rfl (by omega) (by decide) d_md_fixed_29 ?_
        refine V_iconst C d_md_fixed_30 ?_
        exact V_zret C hr d_md_fixed_31 (by decide) (zB_t (by omega)) (by rw [if_pos (by omega)]; rfl)
      · refine V_iconst C d_md_fixed_21 ?_
        exact V_zret C hr d_md_fixed_22 (by decide) (zB_f (by omega)) (by rw [if_neg (by omega)])

set_option maxRecDepth 20000 in
set_option maxHeartbeats 4000000 in
theorem c_md_apart (l : Launch) (w : zW) (σ : Nat → Nat → Int) (a b t : Int) (ha : rI a) (hb : rI b) (ht : t = 0 ∨ t = 1) (n : Nat) (hn : σ 32 0 = (n : Int)) (hn7 : n ≤ 7) : zMi l w LL CC g_md_apart rm_md_apart [.ref (w.1 32), .int (zI (a)), .int (zI (b)), .int (zI (t))] σ (zB (0 ≤ a ∧ a < n ∧ 0 ≤ b ∧ b < n ∧ a ≠ b)) (if 0 ≤ a ∧ a < n ∧ 0 ≤ b ∧ b < n ∧ a ≠ b then zU (zU σ 39 (7 * a.toNat + b.toNat) t) 39 (7 * b.toNat + a.toNat) t else σ) := by
  refine zMi.of g_md_apart (by decide +kernel) (Nat.le_of_ble_eq_true rfl) rfl ?_
  intro p e u m args below meth c C hr
  have C : zC p u m args meth c prog_7_method_12_code 4 "RoundPlansModel" w LL CC := C
  have hr : meth.sig.returnType = (some .boolean) := hr
  obtain ⟨ha1, ha2⟩ := id ha
  obtain ⟨hb1, hb2⟩ := id hb
  show V p l e rm_md_apart u m args below meth c 4 w LL CC 0 0 (MQ below (zQi w LL CC (zB (0 ≤ a ∧ a < n ∧ 0 ≤ b ∧ b < n ∧ a ≠ b)) (if 0 ≤ a ∧ a < n ∧ 0 ≤ b ∧ b < n ∧ a ≠ b then zU (zU σ 39 (7 * a.toNat + b.toNat) t) 39 (7 * b.toNat + a.toNat) t else σ) u.heap.size) args u 0 0 (zA w LL.1 u.heap.size)) 0 [(0, .ref (w.1 32)), (1, .int (zI (a))), (2, .int (zI (b))), (3, .int (zI (t)))] [] σ
  refine V_aload_n C d_md_apart_0 0 rfl ?_
  refine V_iload_n C d_md_apart_1 1 rfl ?_
  refine V_iload_n C d_md_apart_2 2 rfl ?_
  refine V_callVi C 32 (by decide) rfl rfl (c_md_arePair l w σ a b ha hb n hn hn7) wd_584 wd_586 ws_12 wd_7 wd_587 o_md_arePair ⟨rfl, rfl, Nat.le_of_ble_eq_true rfl, Nat.le_of_ble_eq_true rfl⟩ rfl rfl (Nat.le_of_ble_eq_true rfl) d_md_apart_3 ⟨Nat.zero_le _, Nat.zero_le _⟩ ?_
  refine V_ifneB C 11 d_md_apart_6 (by decide) (fun h1 => ?_) (fun h1 => ?_)
  · obtain ⟨i, rfl⟩ : ∃ i : Nat, a = (i : Int) := ⟨a.toNat, by omega⟩
    obtain ⟨j, rfl⟩ : ∃ j : Nat, b = (j : Int) := ⟨b.toNat, by omega⟩
    refine V_aload_n C d_md_apart_11 0 rfl ?_
    refine V_getr C 32 7 39 (by decide) rfl rfl in_md (by decide) rfl wd_461 d_md_apart_12 ?_
    refine V_bipush C d_md_apart_15 (by decide) ?_
    refine V_iload_n C d_md_apart_17 1 rfl ?_
    refine V_imul C d_md_apart_18 ?_
    refine V_iload_n C d_md_apart_19 2 rfl ?_
    refine V_iadd C d_md_apart_20 ?_
    refine V_iload_n C d_md_apart_21 3 rfl ?_
    refine V_zast C 39 (7 * i + j) (by decide) rfl (by omega) ht (by omega) (by decide) d_md_apart_22 ?_
    refine V_aload_n C d_md_apart_23 0 rfl ?_
    refine V_getr C 32 7 39 (by decide) rfl rfl in_md (by decide) rfl wd_461 d_md_apart_24 ?_
    refine V_bipush C d_md_apart_27 (by decide) ?_
    refine V_iload_n C d_md_apart_29 2 rfl ?_
    refine V_imul C d_md_apart_30 ?_
    refine V_iload_n C d_md_apart_31 1 rfl ?_
    refine V_iadd C d_md_apart_32 ?_
    refine V_iload_n C d_md_apart_33 3 rfl ?_
    refine V_zast C 39 (7 * j + i) (by decide) rfl (by omega) ht (by omega) (by decide) d_md_apart_34 ?_
    refine V_iconst C d_md_apart_35 ?_
    exact V_zret C hr d_md_apart_36 (by decide) (zB_t (by omega)) (by rw [if_pos (by omega)]; rfl)
  · refine V_iconst C d_md_apart_9 ?_
    exact V_zret C hr d_md_apart_10 (by decide) (zB_f (by omega)) (by rw [if_neg (by omega)])

set_option maxRecDepth 20000 in
set_option maxHeartbeats 4000000 in
theorem c_md_leads (l : Launch) (w : zW) (σ : Nat → Nat → Int) (a b : Nat) (ha : a < 7) (hb : b < 7) (h40 : bd σ 40 49 0 1) (n : Nat) (hn : σ 32 0 = (n : Int)) (hn7 : n ≤ 7) : zMi l w LL CC g_md_leads rm_md_leads [.ref (w.1 32), .int (zI ((a : Int))), .int (zI ((b : Int)))] σ (zB ((ldT σ n (2 ^ a) n).testBit b = true)) (σ) := by
  refine zMi.of g_md_leads (by decide +kernel) (Nat.le_of_ble_eq_true rfl) rfl ?_
  intro p e u m args below meth c C hr
  have C : zC p u m args meth c prog_7_method_13_code 7 "RoundPlansModel" w LL CC := C
  have hr : meth.sig.returnType = (some .boolean) := hr
  have h2a : 2 ^ a < 128 := Nat.lt_of_lt_of_le (Nat.pow_lt_pow_right (by decide) ha) (by decide)
  show V p l e rm_md_leads u m args below meth c 7 w LL CC 0 0 (MQ below (zQi w LL CC (zB ((ldT σ n (2 ^ a) n).testBit b = true)) (σ) u.heap.size) args u 0 0 (zA w LL.1 u.heap.size)) 0 [(0, .ref (w.1 32)), (1, .int (zI ((a : Int)))), (2, .int (zI ((b : Int))))] [] σ
  refine V_iconst C d_md_leads_0 ?_
  refine V_iload_n C d_md_leads_1 1 rfl ?_
  refine V_ishl C (((2 ^ a : Nat) : Int)) d_md_leads_2 (zI_shl1 (by omega)) ?_
  refine V_istore_n (lv' := [(3, _), (0, _), (1, _), (2, _)]) C d_md_leads_3 (by decide) rfl ?_
  refine V_iconst C d_md_leads_4 ?_
  refine V_istore (lv' := [(4, _), (3, _), (0, _), (1, _), (2, _)]) C d_md_leads_5 (by decide) rfl ?_
  refine V_sub (lv' := [(4, _), (3, _), (0, _), (1, _), (2, _)]) [0, 1, 2, 3, 4] rfl ?_
  refine loopUp (n := n) (P := fun t => V p l e rm_md_leads u m args below meth c 7 w LL CC 0 0 (MQ below (zQi w LL CC (zB ((ldT σ n (2 ^ a) n).testBit b = true)) (σ) u.heap.size) args u 0 0 (zA w LL.1 u.heap.size)) 7 [(4, .int (zI ((t : Int)))), (3, .int (zI (((ldT σ n (2 ^ a) t : Nat) : Int)))), (0, .ref (w.1 32)), (1, .int (zI ((a : Int)))), (2, .int (zI ((b : Int))))] [] (σ)) (fun t hit iht => ?_) 0 (Nat.zero_le _)
  show V p l e rm_md_leads u m args below meth c 7 w LL CC 0 0 (MQ below (zQi w LL CC (zB ((ldT σ n (2 ^ a) n).testBit b = true)) (σ) u.heap.size) args u 0 0 (zA w LL.1 u.heap.size)) 7 [(4, .int (zI ((t : Int)))), (3, .int (zI (((ldT σ n (2 ^ a) t : Nat) : Int)))), (0, .ref (w.1 32)), (1, .int (zI ((a : Int)))), (2, .int (zI ((b : Int))))] [] (σ)
  refine V_iload C d_md_leads_7 0 rfl ?_
  refine V_aload_n C d_md_leads_9 2 rfl ?_
  refine V_geti C 32 0 (by decide) rfl rfl in_md (by decide) rfl wd_454 d_md_leads_10 ?_
  refine V_ti hn ?_
  refine V_cmpge C 95 d_md_leads_13 (by decide) ⟨by omega, by omega⟩ ⟨by omega, by omega⟩ (fun he => ?_) (fun he => ?_)
  · have hit : t = n := by omega
    subst hit
    have hT := ldT_128 (σ := σ) (n := t) hn7 h2a t
    refine V_iload_n C d_md_leads_95 1 rfl ?_
    refine V_iload_n C d_md_leads_96 4 rfl ?_
    refine V_ishr C (((ldT σ t (2 ^ a) t / 2 ^ b : Nat) : Int)) d_md_leads_97 (zI_shr (by omega) (by omega)) ?_
    refine V_iconst C d_md_leads_98 ?_
    refine V_iand C (((ldT σ t (2 ^ a) t / 2 ^ b &&& 1 : Nat) : Int)) d_md_leads_99 (zI_and _ 1) ?_
    have hle : ldT σ t (2 ^ a) t / 2 ^ b &&& 1 ≤ 1 := Nat.and_le_right
    refine V_iconst C d_md_leads_100 ?_
    refine V_cmpne C 108 d_md_leads_101 (by decide) ⟨by omega, by omega⟩ ⟨by omega, by omega⟩ (fun hr2 => ?_) (fun hr2 => ?_)
    · refine V_iconst C d_md_leads_108 ?_
      exact V_zret C hr d_md_leads_109 (by decide) (zB_f (fun z => hr2 (tb_1.mpr z))) rfl
    · refine V_iconst C d_md_leads_104 ?_
      refine V_goto C 109 d_md_leads_105 (by decide) ?_
      exact V_zret C hr d_md_leads_109 (by decide) (zB_t (tb_1.mp hr2)) rfl
  · have hit : t < n := by omega
    refine V_iconst C d_md_leads_16 ?_
    refine V_istore (lv' := [(5, _), (4, _), (3, _), (0, _), (1, _), (2, _)]) C d_md_leads_17 (by decide) rfl ?_
    refine V_sub (lv' := [(5, _), (4, _), (3, _), (0, _), (1, _), (2, _)]) [0, 1, 2, 3, 4, 5] rfl ?_
    refine loopUp (n := n) (P := fun x => V p l e rm_md_leads u m args below meth c 7 w LL CC 0 0 (MQ below (zQi w LL CC (zB ((ldT σ n (2 ^ a) n).testBit b = true)) (σ) u.heap.size) args u 0 0 (zA w LL.1 u.heap.size)) 19 [(5, .int (zI ((x : Int)))), (4, .int (zI ((t : Int)))), (3, .int (zI (((ldX σ n (ldT σ n (2 ^ a) t) x : Nat) : Int)))), (0, .ref (w.1 32)), (1, .int (zI ((a : Int)))), (2, .int (zI ((b : Int))))] [] (σ)) (fun x hix ihx => ?_) 0 (Nat.zero_le _)
    show V p l e rm_md_leads u m args below meth c 7 w LL CC 0 0 (MQ below (zQi w LL CC (zB ((ldT σ n (2 ^ a) n).testBit b = true)) (σ) u.heap.size) args u 0 0 (zA w LL.1 u.heap.size)) 19 [(5, .int (zI ((x : Int)))), (4, .int (zI ((t : Int)))), (3, .int (zI (((ldX σ n (ldT σ n (2 ^ a) t) x : Nat) : Int)))), (0, .ref (w.1 32)), (1, .int (zI ((a : Int)))), (2, .int (zI ((b : Int))))] [] (σ)
    refine V_iload C d_md_leads_19 0 rfl ?_
    refine V_aload_n C d_md_leads_21 3 rfl ?_
    refine V_geti C 32 0 (by decide) rfl rfl in_md (by decide) rfl wd_454 d_md_leads_22 ?_
    refine V_ti hn ?_
    refine V_cmpge C 89 d_md_leads_25 (by decide) ⟨by omega, by omega⟩ ⟨by omega, by omega⟩ (fun hf => ?_) (fun hf => ?_)
    · have hix : x = n := by omega
      subst hix
      refine V_iinc (lv' := [(4, _), (5, _), (3, _), (0, _), (1, _), (2, _)]) C d_md_leads_89 1 rfl (by decide) rfl ?_
      refine V_goto C 7 d_md_leads_92 (by decide) ?_
      refine V_sub (lv' := [(4, _), (3, _), (0, _), (1, _), (2, _)]) [0, 2, 3, 4, 5] rfl ?_
      exact iht hit
    · have hix : x < n := by omega
      have hX := ldX_128 (σ := σ) (n := n) hn7 (ldT_128 (σ := σ) (n := n) hn7 h2a t) x
      refine V_iconst C d_md_leads_28 ?_
      refine V_istore (lv' := [(6, _), (5, _), (4, _), (3, _), (0, _), (1, _), (2, _)]) C d_md_leads_29 (by decide) rfl ?_
      refine V_sub (lv' := [(6, _), (5, _), (4, _), (3, _), (0, _), (1, _), (2, _)]) [0, 1, 2, 3, 4, 5, 6] rfl ?_
      rw [show (ldX σ n (ldT σ n (2 ^ a) t) x) = ldP σ x (ldX σ n (ldT σ n (2 ^ a) t) x) 0 by unfold ldP; rw [ldY]; split <;> rfl]
      refine loopUp (n := n) (P := fun y => V p l e rm_md_leads u m args below meth c 7 w LL CC 0 0 (MQ below (zQi w LL CC (zB ((ldT σ n (2 ^ a) n).testBit b = true)) (σ) u.heap.size) args u 0 0 (zA w LL.1 u.heap.size)) 31 [(6, .int (zI (y : Int))), (5, .int (zI (x : Int))), (4, .int (zI (t : Int))), (3, .int (zI ((ldP σ x (ldX σ n (ldT σ n (2 ^ a) t) x) y : Nat) : Int))), (0, .ref (w.1 32)), (1, .int (zI (a : Int))), (2, .int (zI (b : Int)))] [] σ) (fun y hiy ihy => ?_) 0 (Nat.zero_le _)
      show V p l e rm_md_leads u m args below meth c 7 w LL CC 0 0 (MQ below (zQi w LL CC (zB ((ldT σ n (2 ^ a) n).testBit b = true)) (σ) u.heap.size) args u 0 0 (zA w LL.1 u.heap.size)) 31 [(6, .int (zI (y : Int))), (5, .int (zI (x : Int))), (4, .int (zI (t : Int))), (3, .int (zI ((ldP σ x (ldX σ n (ldT σ n (2 ^ a) t) x) y : Nat) : Int))), (0, .ref (w.1 32)), (1, .int (zI (a : Int))), (2, .int (zI (b : Int)))] [] σ
      have h128 := ldP_128 (σ := σ) (x := x) (y := y) hX (by omega)
      refine V_iload C d_md_leads_31 0 rfl ?_
      refine V_aload_n C d_md_leads_33 4 rfl ?_
      refine V_geti C 32 0 (by decide) rfl rfl in_md (by decide) rfl wd_454 d_md_leads_34 ?_
      refine V_ti hn ?_
      refine V_cmpge C 83 d_md_leads_37 (by decide) ⟨by omega, by omega⟩ ⟨by omega, by omega⟩ (fun hg => ?_) (fun hg => ?_)
      · have hyn : y = n := by omega
        subst hyn
        refine V_iinc (lv' := [(5, _), (6, _), (4, _), (3, _), (0, _), (1, _), (2, _)]) C d_md_leads_83 1 rfl (by decide) rfl ?_
        refine V_goto C 19 d_md_leads_86 (by decide) ?_
        refine V_sub (lv' := [(5, _), (4, _), (3, _), (0, _), (1, _), (2, _)]) [0, 2, 3, 4, 5, 6] rfl ?_
        have h99 := ihx hix
        rw [← ldX_s] at h99
        first | exact h99 | (rw [← hout] at h99; exact h99)
      · have hyn : y < n := by omega
        refine V_iload_n C d_md_leads_40 3 rfl ?_
        refine V_iload C d_md_leads_41 1 rfl ?_
        refine V_ishr C (((ldP σ x (ldX σ n (ldT σ n (2 ^ a) t) x) y / 2 ^ x : Nat) : Int)) d_md_leads_43 (zI_shr (by omega) (by omega)) ?_
        refine V_iconst C d_md_leads_44 ?_
        refine V_iand C (((ldP σ x (ldX σ n (ldT σ n (2 ^ a) t) x) y / 2 ^ x &&& 1 : Nat) : Int)) d_md_leads_45 (zI_and _ 1) ?_
        have hle : ldP σ x (ldX σ n (ldT σ n (2 ^ a) t) x) y / 2 ^ x &&& 1 ≤ 1 := Nat.and_le_right
        refine V_iconst C d_md_leads_46 ?_
        refine V_cmpne C 83 d_md_leads_47 (by decide) ⟨by omega, by omega⟩ ⟨by omega, by omega⟩ (fun hbit => ?_) (fun hbit => ?_)
        · have hout := ldP_out (n := n) (fun z => hbit (tb_1.mpr z))
          refine V_iinc (lv' := [(5, _), (6, _), (4, _), (3, _), (0, _), (1, _), (2, _)]) C d_md_leads_83 1 rfl (by decide) rfl ?_
          refine V_goto C 19 d_md_leads_86 (by decide) ?_
          refine V_sub (lv' := [(5, _), (4, _), (3, _), (0, _), (1, _), (2, _)]) [0, 2, 3, 4, 5, 6] rfl ?_
          have h99 := ihx hix
          rw [← ldX_s] at h99
          first | exact h99 | (rw [← hout] at h99; exact h99)
        · have hbit := tb_1.mp hbit
          refine V_iload_n C d_md_leads_50 3 rfl ?_
          refine V_aload_n C d_md_leads_51 4 rfl ?_
          refine V_getr C 32 8 40 (by decide) rfl rfl in_md (by decide) rfl wd_462 d_md_leads_52 ?_
          refine V_bipush C d_md_leads_55 (by decide) ?_
          refine V_iload C d_md_leads_57 1 rfl ?_
          refine V_imul C d_md_leads_59 ?_
          refine V_iload C d_md_leads_60 0 rfl ?_
          refine V_iadd C d_md_leads_62 ?_
          refine V_zald C 40 (7 * x + y) (by decide) rfl (by omega) (by omega) (by decide) d_md_leads_63 ?_
          have q40 := h40 (7 * x + y) (by omega)
          refine V_ifeq C 74 d_md_leads_64 (by decide) ⟨by omega, by omega⟩ (fun hz => ?_) (fun hz => ?_)
          · refine V_iconst C d_md_leads_74 ?_
            refine V_ior C (((ldP σ x (ldX σ n (ldT σ n (2 ^ a) t) x) y ||| 0 : Nat) : Int)) d_md_leads_75 (zI_or _ 0) ?_
            rw [Nat.or_zero]
            refine V_istore_n (lv' := [(3, _), (6, _), (5, _), (4, _), (0, _), (1, _), (2, _)]) C d_md_leads_76 (by decide) rfl ?_
            refine V_iinc (lv' := [(6, _), (3, _), (5, _), (4, _), (0, _), (1, _), (2, _)]) C d_md_leads_77 1 rfl (by decide) rfl ?_
            refine V_goto C 31 d_md_leads_80 (by decide) ?_
            refine V_sub (lv' := [(6, _), (5, _), (4, _), (3, _), (0, _), (1, _), (2, _)]) [0, 2, 3, 1, 4, 5, 6] rfl ?_
            have h99 := ihy hyn
            first | (rw [ldP_f hbit hz] at h99; exact h99) | (rw [ldP_t hbit hz] at h99; exact h99)
          · refine V_iconst C d_md_leads_67 ?_
            refine V_iload C d_md_leads_68 0 rfl ?_
            refine V_ishl C (((2 ^ y : Nat) : Int)) d_md_leads_70 (zI_shl1 (by omega)) ?_
            refine V_goto C 75 d_md_leads_71 (by decide) ?_
            refine V_ior C (((wi (ldP σ x (ldX σ n (ldT σ n (2 ^ a) t) x) y) y : Nat) : Int)) d_md_leads_75 zI_wi ?_
            refine V_istore_n (lv' := [(3, _), (6, _), (5, _), (4, _), (0, _), (1, _), (2, _)]) C d_md_leads_76 (by decide) rfl ?_
            refine V_iinc (lv' := [(6, _), (3, _), (5, _), (4, _), (0, _), (1, _), (2, _)]) C d_md_leads_77 1 rfl (by decide) rfl ?_
            refine V_goto C 31 d_md_leads_80 (by decide) ?_
            refine V_sub (lv' := [(6, _), (5, _), (4, _), (3, _), (0, _), (1, _), (2, _)]) [0, 2, 3, 1, 4, 5, 6] rfl ?_
            have h99 := ihy hyn
            first | (rw [ldP_f hbit hz] at h99; exact h99) | (rw [ldP_t hbit hz] at h99; exact h99)

set_option maxRecDepth 20000 in
set_option maxHeartbeats 4000000 in
theorem c_md_before (l : Launch) (w : zW) (σ : Nat → Nat → Int) (a b : Int) (ha : rI a) (hb : rI b) (n : Nat) (hn : σ 32 0 = (n : Int)) (hn7 : n ≤ 7) (h40 : bd σ 40 49 0 1) : zMi l w LL CC g_md_before rm_md_before [.ref (w.1 32), .int (zI (a)), .int (zI (b))] σ (zB (0 ≤ a ∧ a < n ∧ 0 ≤ b ∧ b < n ∧ a ≠ b ∧ σ 40 (7 * a.toNat + b.toNat) = 0 ∧ ¬ (ldT σ n (2 ^ b.toNat) n).testBit a.toNat = true)) (if 0 ≤ a ∧ a < n ∧ 0 ≤ b ∧ b < n ∧ a ≠ b ∧ σ 40 (7 * a.toNat + b.toNat) = 0 ∧ ¬ (ldT σ n (2 ^ b.toNat) n).testBit a.toNat = true then zU σ 40 (7 * a.toNat + b.toNat) 1 else σ) := by
  refine zMi.of g_md_before (by decide +kernel) (Nat.le_of_ble_eq_true rfl) rfl ?_
  intro p e u m args below meth c C hr
  have C : zC p u m args meth c prog_7_method_14_code 3 "RoundPlansModel" w LL CC := C
  have hr : meth.sig.returnType = (some .boolean) := hr
  obtain ⟨ha3, ha4⟩ := id ha
  obtain ⟨hb3, hb4⟩ := id hb
  show V p l e rm_md_before u m args below meth c 3 w LL CC 0 0 (MQ below (zQi w LL CC (zB (0 ≤ a ∧ a < n ∧ 0 ≤ b ∧ b < n ∧ a ≠ b ∧ σ 40 (7 * a.toNat + b.toNat) = 0 ∧ ¬ (ldT σ n (2 ^ b.toNat) n).testBit a.toNat = true)) (if 0 ≤ a ∧ a < n ∧ 0 ≤ b ∧ b < n ∧ a ≠ b ∧ σ 40 (7 * a.toNat + b.toNat) = 0 ∧ ¬ (ldT σ n (2 ^ b.toNat) n).testBit a.toNat = true then zU σ 40 (7 * a.toNat + b.toNat) 1 else σ) u.heap.size) args u 0 0 (zA w LL.1 u.heap.size)) 0 [(0, .ref (w.1 32)), (1, .int (zI (a))), (2, .int (zI (b)))] [] σ
  refine V_aload_n C d_md_before_0 0 rfl ?_
  refine V_iload_n C d_md_before_1 1 rfl ?_
  refine V_iload_n C d_md_before_2 2 rfl ?_
  refine V_callVi C 32 (by decide) rfl rfl (c_md_arePair l w σ a b ha hb n hn hn7) wd_584 wd_586 ws_12 wd_7 wd_587 o_md_arePair ⟨rfl, rfl, Nat.le_of_ble_eq_true rfl, Nat.le_of_ble_eq_true rfl⟩ rfl rfl (Nat.le_of_ble_eq_true rfl) d_md_before_3 ⟨Nat.zero_le _, Nat.zero_le _⟩ ?_
  refine V_ifeqB C 32 d_md_before_6 (by decide) (fun ht => ?_) (fun ht => ?_)
  · refine V_iconst C d_md_before_32 ?_
    exact V_zret C hr d_md_before_33 (by decide) (zB_f (by intro z; first | omega | (exact hb1 z.2.2.2.2.2.1) | (exact z.2.2.2.2.2.2 hb2))) (by rw [if_neg (by intro z; first | omega | (exact hb1 z.2.2.2.2.2.1) | (exact z.2.2.2.2.2.2 hb2))])
  · obtain ⟨i, rfl⟩ : ∃ i : Nat, a = (i : Int) := ⟨a.toNat, by omega⟩
    obtain ⟨j, rfl⟩ : ∃ j : Nat, b = (j : Int) := ⟨b.toNat, by omega⟩
    refine V_aload_n C d_md_before_9 0 rfl ?_
    refine V_getr C 32 8 40 (by decide) rfl rfl in_md (by decide) rfl wd_462 d_md_before_10 ?_
    refine V_bipush C d_md_before_13 (by decide) ?_
    refine V_iload_n C d_md_before_15 1 rfl ?_
    refine V_imul C d_md_before_16 ?_
    refine V_iload_n C d_md_before_17 2 rfl ?_
    refine V_iadd C d_md_before_18 ?_
    refine V_zald C 40 (7 * i + j) (by decide) rfl (by omega) (by omega) (by decide) d_md_before_19 ?_
    have q40 := h40 (7 * i + j) (by omega)
    refine V_ifne C 32 d_md_before_20 (by decide) ⟨by omega, by omega⟩ (fun hb1 => ?_) (fun hb1 => ?_)
    · refine V_iconst C d_md_before_32 ?_
      exact V_zret C hr d_md_before_33 (by decide) (zB_f (by intro z; first | omega | (exact hb1 z.2.2.2.2.2.1) | (exact z.2.2.2.2.2.2 hb2))) (by rw [if_neg (by intro z; first | omega | (exact hb1 z.2.2.2.2.2.1) | (exact z.2.2.2.2.2.2 hb2))])
    · refine V_aload_n C d_md_before_23 0 rfl ?_
      refine V_iload_n C d_md_before_24 2 rfl ?_
      refine V_iload_n C d_md_before_25 1 rfl ?_
      refine V_callVi C 32 (by decide) rfl rfl (c_md_leads l w σ j i (by omega) (by omega) h40 n hn hn7) wd_592 wd_594 ws_13 wd_7 wd_595 o_md_leads ⟨rfl, rfl, Nat.le_of_ble_eq_true rfl, Nat.le_of_ble_eq_true rfl⟩ rfl rfl (Nat.le_of_ble_eq_true rfl) d_md_before_26 ⟨Nat.zero_le _, Nat.zero_le _⟩ ?_
      refine V_ifeqB C 34 d_md_before_29 (by decide) (fun hb2 => ?_) (fun hb2 => ?_)
      · refine V_aload_n C d_md_before_34 0 rfl ?_
        refine V_getr C 32 8 40 (by decide) rfl rfl in_md (by decide) rfl wd_462 d_md_before_35 ?_
        refine V_bipush C d_md_before_38 (by decide) ?_
        refine V_iload_n C d_md_before_40 1 rfl ?_
        refine V_imul C d_md_before_41 ?_
        refine V_iload_n C d_md_before_42 2 rfl ?_
        refine V_iadd C d_md_before_43 ?_
        refine V_iconst C d_md_before_44 ?_
        refine V_zast C 40 (7 * i + j) (by decide) rfl (by omega) (by omega) (by omega) (by decide) d_md_before_45 ?_
        refine V_iconst C d_md_before_46 ?_
        exact V_zret C hr d_md_before_47 (by decide) (zB_t ⟨by omega, by omega, by omega, by omega, by omega, hb1, hb2⟩) (by rw [if_pos ⟨by omega, by omega, by omega, by omega, by omega, hb1, hb2⟩]; rfl)
      · refine V_iconst C d_md_before_32 ?_
        exact V_zret C hr d_md_before_33 (by decide) (zB_f (by intro z; first | omega | (exact hb1 z.2.2.2.2.2.1) | (exact z.2.2.2.2.2.2 hb2))) (by rw [if_neg (by intro z; first | omega | (exact hb1 z.2.2.2.2.2.1) | (exact z.2.2.2.2.2.2 hb2))])

set_option maxRecDepth 20000 in
set_option maxHeartbeats 4000000 in
theorem c_md_cost (l : Launch) (w : zW) (σ : Nat → Nat → Int) (hf : σ 32 18 = 0 ∨ σ 32 18 = 1) : zMl l w LL CC g_md_cost rm_md_cost [.ref (w.1 32)] σ (if σ 32 18 = 0 then -1 else σ 32 21) (σ) := by
  refine zMl.of g_md_cost (by decide +kernel) (Nat.le_of_ble_eq_true rfl) rfl ?_
  intro p e u m args below meth c C hr
  have C : zC p u m args meth c prog_7_method_27_code 1 "RoundPlansModel" w LL CC := C
  have hr : meth.sig.returnType = (some .long) := hr
  show V p l e rm_md_cost u m args below meth c 1 w LL CC 0 0 (MQ below (zQl w LL CC (if σ 32 18 = 0 then -1 else σ 32 21) (σ) u.heap.size) args u 0 0 (zA w LL.1 u.heap.size)) 0 [(0, .ref (w.1 32))] [] σ
  refine V_aload_n C d_md_cost_0 0 rfl ?_
  refine V_geti C 32 18 (by decide) rfl rfl in_md (by decide) rfl wd_472 d_md_cost_1 ?_
  refine V_ifeq C 14 d_md_cost_4 (by decide) ⟨by omega, by omega⟩ (fun h1 => ?_) (fun h1 => ?_)
  · refine V_ldc2 C (-1) d_md_cost_14 (by rw [show zL (-1) = (-1 : Int64) by decide]; exact wd_635) ?_
    exact V_lret C hr d_md_cost_17 (by rw [if_pos h1]) rfl
  · refine V_aload_n C d_md_cost_7 0 rfl ?_
    refine V_getl C 32 21 (by decide) rfl rfl in_md (by decide) rfl wd_475 d_md_cost_8 ?_
    refine V_goto C 17 d_md_cost_11 (by decide) ?_
    exact V_lret C hr d_md_cost_17 (by rw [if_neg h1]) rfl

set_option maxRecDepth 20000 in
set_option maxHeartbeats 4000000 in
theorem c_md_vehicleOf (l : Launch) (w : zW) (σ : Nat → Nat → Int) (k : Int) (hk : rI k) (n : Nat) (hn : σ 32 19 = (n : Int)) (hn7 : n ≤ 7) : zMi l w LL CC g_md_vehicleOf rm_md_vehicleOf [.ref (w.1 32), .int (zI (k))] σ (if 0 ≤ k ∧ k < n then σ 49 k.toNat else -1) (σ) := by
  refine zMi.of g_md_vehicleOf (by decide +kernel) (Nat.le_of_ble_eq_true rfl) rfl ?_
  intro p e u m args below meth c C hr
  have C : zC p u m args meth c prog_7_method_28_code 2 "RoundPlansModel" w LL CC := C
  have hr : meth.sig.returnType = (some .int) := hr
  obtain ⟨hk1, hk2⟩ := id hk
  show V p l e rm_md_vehicleOf u m args below meth c 2 w LL CC 0 0 (MQ below (zQi w LL CC (if 0 ≤ k ∧ k < n then σ 49 k.toNat else -1) (σ) u.heap.size) args u 0 0 (zA w LL.1 u.heap.size)) 0 [(0, .ref (w.1 32)), (1, .int (zI (k)))] [] σ
  refine V_iload_n C d_md_vehicleOf_0 1 rfl ?_
  refine V_iflt C 21 d_md_vehicleOf_1 (by decide) ⟨by omega, by omega⟩ (fun h1 => ?_) (fun h1 => ?_)
  · refine V_iconst C d_md_vehicleOf_21 ?_
    exact V_iret C hr d_md_vehicleOf_22 (by first | (rw [if_neg (by omega)]) | (rw [if_pos (by omega)]; rfl)) rfl
  · refine V_iload_n C d_md_vehicleOf_4 1 rfl ?_
    refine V_aload_n C d_md_vehicleOf_5 0 rfl ?_
    refine V_geti C 32 19 (by decide) rfl rfl in_md (by decide) rfl wd_473 d_md_vehicleOf_6 ?_
    refine V_ti hn ?_
    refine V_cmpge C 21 d_md_vehicleOf_9 (by decide) ⟨by omega, by omega⟩ ⟨by omega, by omega⟩ (fun h2 => ?_) (fun h2 => ?_)
    · refine V_iconst C d_md_vehicleOf_21 ?_
      exact V_iret C hr d_md_vehicleOf_22 (by first | (rw [if_neg (by omega)]) | (rw [if_pos (by omega)]; rfl)) rfl
    · obtain ⟨i, rfl⟩ : ∃ i : Nat, k = (i : Int) := ⟨k.toNat, by omega⟩
      refine V_aload_n C d_md_vehicleOf_12 0 rfl ?_
      refine V_getr C 32 22 49 (by decide) rfl rfl in_md (by decide) rfl wd_476 d_md_vehicleOf_13 ?_
      refine V_iload_n C d_md_vehicleOf_16 1 rfl ?_
      refine V_iald C 49 _ (by decide) rfl rfl (by omega) (by decide) d_md_vehicleOf_17 ?_
      refine V_goto C 22 d_md_vehicleOf_18 (by decide) ?_
      exact V_iret C hr d_md_vehicleOf_22 (by first | (rw [if_neg (by omega)]) | (rw [if_pos (by omega)]; rfl)) rfl

set_option maxRecDepth 20000 in
set_option maxHeartbeats 4000000 in
theorem c_md_begun (l : Launch) (w : zW) (σ : Nat → Nat → Int) (k : Int) (hk : rI k) (n : Nat) (hn : σ 32 19 = (n : Int)) (hn7 : n ≤ 7) : zMi l w LL CC g_md_begun rm_md_begun [.ref (w.1 32), .int (zI (k))] σ (if 0 ≤ k ∧ k < n then σ 50 k.toNat else -1) (σ) := by
  refine zMi.of g_md_begun (by decide +kernel) (Nat.le_of_ble_eq_true rfl) rfl ?_
  intro p e u m args below meth c C hr
  have C : zC p u m args meth c prog_7_method_30_code 2 "RoundPlansModel" w LL CC := C
  have hr : meth.sig.returnType = (some .int) := hr
  obtain ⟨hk1, hk2⟩ := id hk
  show V p l e rm_md_begun u m args below meth c 2 w LL CC 0 0 (MQ below (zQi w LL CC (if 0 ≤ k ∧ k < n then σ 50 k.toNat else -1) (σ) u.heap.size) args u 0 0 (zA w LL.1 u.heap.size)) 0 [(0, .ref (w.1 32)), (1, .int (zI (k)))] [] σ
  refine V_iload_n C d_md_begun_0 1 rfl ?_
  refine V_iflt C 21 d_md_begun_1 (by decide) ⟨by omega, by omega⟩ (fun h1 => ?_) (fun h1 => ?_)
  · refine V_iconst C d_md_begun_21 ?_
    exact V_iret C hr d_md_begun_22 (by first | (rw [if_neg (by omega)]) | (rw [if_pos (by omega)]; rfl)) rfl
  · refine V_iload_n C d_md_begun_4 1 rfl ?_
    refine V_aload_n C d_md_begun_5 0 rfl ?_
    refine V_geti C 32 19 (by decide) rfl rfl in_md (by decide) rfl wd_473 d_md_begun_6 ?_
    refine V_ti hn ?_
    refine V_cmpge C 21 d_md_begun_9 (by decide) ⟨by omega, by omega⟩ ⟨by omega, by omega⟩ (fun h2 => ?_) (fun h2 => ?_)
    · refine V_iconst C d_md_begun_21 ?_
      exact V_iret C hr d_md_begun_22 (by first | (rw [if_neg (by omega)]) | (rw [if_pos (by omega)]; rfl)) rfl
    · obtain ⟨i, rfl⟩ : ∃ i : Nat, k = (i : Int) := ⟨k.toNat, by omega⟩
      refine V_aload_n C d_md_begun_12 0 rfl ?_
      refine V_getr C 32 23 50 (by decide) rfl rfl in_md (by decide) rfl wd_477 d_md_begun_13 ?_
      refine V_iload_n C d_md_begun_16 1 rfl ?_
      refine V_iald C 50 _ (by decide) rfl rfl (by omega) (by decide) d_md_begun_17 ?_
      refine V_goto C 22 d_md_begun_18 (by decide) ?_
      exact V_iret C hr d_md_begun_22 (by first | (rw [if_neg (by omega)]) | (rw [if_pos (by omega)]; rfl)) rfl

set_option maxRecDepth 20000 in
set_option maxHeartbeats 4000000 in
theorem c_md_back (l : Launch) (w : zW) (σ : Nat → Nat → Int) (k : Int) (hk : rI k) (nv : Nat) (hv : σ 32 20 = (nv : Int)) (hv3 : nv ≤ 3) : zMi l w LL CC g_md_back rm_md_back [.ref (w.1 32), .int (zI (k))] σ (if 0 ≤ k ∧ k < nv then σ 53 k.toNat else -1) (σ) := by
  refine zMi.of g_md_back (by decide +kernel) (Nat.le_of_ble_eq_true rfl) rfl ?_
  intro p e u m args below meth c C hr
  have C : zC p u m args meth c prog_7_method_31_code 2 "RoundPlansModel" w LL CC := C
  have hr : meth.sig.returnType = (some .int) := hr
  obtain ⟨hk1, hk2⟩ := id hk
  show V p l e rm_md_back u m args below meth c 2 w LL CC 0 0 (MQ below (zQi w LL CC (if 0 ≤ k ∧ k < nv then σ 53 k.toNat else -1) (σ) u.heap.size) args u 0 0 (zA w LL.1 u.heap.size)) 0 [(0, .ref (w.1 32)), (1, .int (zI (k)))] [] σ
  refine V_iload_n C d_md_back_0 1 rfl ?_
  refine V_iflt C 21 d_md_back_1 (by decide) ⟨by omega, by omega⟩ (fun h1 => ?_) (fun h1 => ?_)
  · refine V_iconst C d_md_back_21 ?_
    exact V_iret C hr d_md_back_22 (by first | (rw [if_neg (by omega)]) | (rw [if_pos (by omega)]; rfl)) rfl
  · refine V_iload_n C d_md_back_4 1 rfl ?_
    refine V_aload_n C d_md_back_5 0 rfl ?_
    refine V_geti C 32 20 (by decide) rfl rfl in_md (by decide) rfl wd_474 d_md_back_6 ?_
    refine V_ti hv ?_
    refine V_cmpge C 21 d_md_back_9 (by decide) ⟨by omega, by omega⟩ ⟨by omega, by omega⟩ (fun h2 => ?_) (fun h2 => ?_)
    · refine V_iconst C d_md_back_21 ?_
      exact V_iret C hr d_md_back_22 (by first | (rw [if_neg (by omega)]) | (rw [if_pos (by omega)]; rfl)) rfl
    · obtain ⟨i, rfl⟩ : ∃ i : Nat, k = (i : Int) := ⟨k.toNat, by omega⟩
      refine V_aload_n C d_md_back_12 0 rfl ?_
      refine V_getr C 32 26 53 (by decide) rfl rfl in_md (by decide) rfl wd_480 d_md_back_13 ?_
      refine V_iload_n C d_md_back_16 1 rfl ?_
      refine V_iald C 53 _ (by decide) rfl rfl (by omega) (by decide) d_md_back_17 ?_
      refine V_goto C 22 d_md_back_18 (by decide) ?_
      exact V_iret C hr d_md_back_22 (by first | (rw [if_neg (by omega)]) | (rw [if_pos (by omega)]; rfl)) rfl

set_option maxRecDepth 20000 in
set_option maxHeartbeats 4000000 in
theorem c_md_saved (l : Launch) (w : zW) (σ : Nat → Nat → Int) (k : Int) (hk : rI k) (nv : Nat) (hv : σ 32 20 = (nv : Int)) (hv3 : nv ≤ 3) : zMl l w LL CC g_md_saved rm_md_saved [.ref (w.1 32), .int (zI (k))] σ (if 0 ≤ k ∧ k < nv then σ 54 k.toNat else -1) (σ) := by
  refine zMl.of g_md_saved (by decide +kernel) (Nat.le_of_ble_eq_true rfl) rfl ?_
  intro p e u m args below meth c C hr
  have C : zC p u m args meth c prog_7_method_32_code 2 "RoundPlansModel" w LL CC := C
  have hr : meth.sig.returnType = (some .long) := hr
  obtain ⟨hk1, hk2⟩ := id hk
  show V p l e rm_md_saved u m args below meth c 2 w LL CC 0 0 (MQ below (zQl w LL CC (if 0 ≤ k ∧ k < nv then σ 54 k.toNat else -1) (σ) u.heap.size) args u 0 0 (zA w LL.1 u.heap.size)) 0 [(0, .ref (w.1 32)), (1, .int (zI (k)))] [] σ
  refine V_iload_n C d_md_saved_0 1 rfl ?_
  refine V_iflt C 21 d_md_saved_1 (by decide) ⟨by omega, by omega⟩ (fun h1 => ?_) (fun h1 => ?_)
  · refine V_ldc2 C (-1) d_md_saved_21 (by rw [show zL (-1) = (-1 : Int64) by decide]; exact wd_635) ?_
    exact V_lret C hr d_md_saved_24 (by first | (rw [if_neg (by omega)]) | (rw [if_pos (by omega)]; rfl)) rfl
  · refine V_iload_n C d_md_saved_4 1 rfl ?_
    refine V_aload_n C d_md_saved_5 0 rfl ?_
    refine V_geti C 32 20 (by decide) rfl rfl in_md (by decide) rfl wd_474 d_md_saved_6 ?_
    refine V_ti hv ?_
    refine V_cmpge C 21 d_md_saved_9 (by decide) ⟨by omega, by omega⟩ ⟨by omega, by omega⟩ (fun h2 => ?_) (fun h2 => ?_)
    · refine V_ldc2 C (-1) d_md_saved_21 (by rw [show zL (-1) = (-1 : Int64) by decide]; exact wd_635) ?_
      exact V_lret C hr d_md_saved_24 (by first | (rw [if_neg (by omega)]) | (rw [if_pos (by omega)]; rfl)) rfl
    · obtain ⟨i, rfl⟩ : ∃ i : Nat, k = (i : Int) := ⟨k.toNat, by omega⟩
      refine V_aload_n C d_md_saved_12 0 rfl ?_
      refine V_getr C 32 27 54 (by decide) rfl rfl in_md (by decide) rfl wd_481 d_md_saved_13 ?_
      refine V_iload_n C d_md_saved_16 1 rfl ?_
      refine V_lald C 54 _ (by decide) rfl rfl (by omega) (by decide) d_md_saved_17 ?_
      refine V_goto C 24 d_md_saved_18 (by decide) ?_
      exact V_lret C hr d_md_saved_24 (by first | (rw [if_neg (by omega)]) | (rw [if_pos (by omega)]; rfl)) rfl

set_option maxRecDepth 20000 in
set_option maxHeartbeats 4000000 in
theorem c_md_at (l : Launch) (w : zW) (σ : Nat → Nat → Int) (k j : Int) (hk : rI k) (hj : rI j) (hl : bd σ 52 3 0 7) (h51 : bd σ 51 3 0 2097151) (nv : Nat) (hv : σ 32 20 = (nv : Int)) (hv3 : nv ≤ 3) : zMi l w LL CC g_md_at rm_md_at [.ref (w.1 32), .int (zI (k)), .int (zI (j))] σ (if 0 ≤ k ∧ k < nv ∧ 0 ≤ j ∧ j < σ 52 k.toNat then (((σ 51 k.toNat).toNat / 2 ^ (3 * j.toNat) &&& 7 : Nat) : Int) else -1) (σ) := by
  refine zMi.of g_md_at (by decide +kernel) (Nat.le_of_ble_eq_true rfl) rfl ?_
  intro p e u m args below meth c C hr
  have C : zC p u m args meth c prog_7_method_29_code 3 "RoundPlansModel" w LL CC := C
  have hr : meth.sig.returnType = (some .int) := hr
  obtain ⟨hk1, hk2⟩ := id hk
  obtain ⟨hj1, hj2⟩ := id hj
  show V p l e rm_md_at u m args below meth c 3 w LL CC 0 0 (MQ below (zQi w LL CC (if 0 ≤ k ∧ k < nv ∧ 0 ≤ j ∧ j < σ 52 k.toNat then (((σ 51 k.toNat).toNat / 2 ^ (3 * j.toNat) &&& 7 : Nat) : Int) else -1) (σ) u.heap.size) args u 0 0 (zA w LL.1 u.heap.size)) 0 [(0, .ref (w.1 32)), (1, .int (zI (k))), (2, .int (zI (j)))] [] σ
  refine V_iload_n C d_md_at_0 1 rfl ?_
  refine V_iflt C 42 d_md_at_1 (by decide) ⟨by omega, by omega⟩ (fun h1 => ?_) (fun h1 => ?_)
  · refine V_iconst C d_md_at_42 ?_
    exact V_iret C hr d_md_at_43 (by first | (rw [if_neg (by omega)]) | (rw [if_neg (by rw [Int.toNat_natCast]; omega)]) | (rw [if_pos (by rw [Int.toNat_natCast]; omega)]; rfl)) rfl
  · refine V_iload_n C d_md_at_4 1 rfl ?_
    refine V_aload_n C d_md_at_5 0 rfl ?_
    refine V_geti C 32 20 (by decide) rfl rfl in_md (by decide) rfl wd_474 d_md_at_6 ?_
    refine V_ti hv ?_
    refine V_cmpge C 42 d_md_at_9 (by decide) ⟨by omega, by omega⟩ ⟨by omega, by omega⟩ (fun h2 => ?_) (fun h2 => ?_)
    · refine V_iconst C d_md_at_42 ?_
      exact V_iret C hr d_md_at_43 (by first | (rw [if_neg (by omega)]) | (rw [if_neg (by rw [Int.toNat_natCast]; omega)]) | (rw [if_pos (by rw [Int.toNat_natCast]; omega)]; rfl)) rfl
    · refine V_iload_n C d_md_at_12 2 rfl ?_
      refine V_iflt C 42 d_md_at_13 (by decide) ⟨by omega, by omega⟩ (fun h3 => ?_) (fun h3 => ?_)
      · refine V_iconst C d_md_at_42 ?_
        exact V_iret C hr d_md_at_43 (by first | (rw [if_neg (by omega)]) | (rw [if_neg (by rw [Int.toNat_natCast]; omega)]) | (rw [if_pos (by rw [Int.toNat_natCast]; omega)]; rfl)) rfl
      · obtain ⟨i, rfl⟩ : ∃ i : Nat, k = (i : Int) := ⟨k.toNat, by omega⟩
        have hli := hl i (by omega)
        refine V_iload_n C d_md_at_16 2 rfl ?_
        refine V_aload_n C d_md_at_17 0 rfl ?_
        refine V_getr C 32 25 52 (by decide) rfl rfl in_md (by decide) rfl wd_479 d_md_at_18 ?_
        refine V_iload_n C d_md_at_21 1 rfl ?_
        refine V_iald C 52 _ (by decide) rfl rfl (by omega) (by decide) d_md_at_22 ?_
        refine V_cmpge C 42 d_md_at_23 (by decide) ⟨by omega, by omega⟩ ⟨by omega, by omega⟩ (fun h4 => ?_) (fun h4 => ?_)
        · refine V_iconst C d_md_at_42 ?_
          exact V_iret C hr d_md_at_43 (by first | (rw [if_neg (by omega)]) | (rw [if_neg (by rw [Int.toNat_natCast]; omega)]) | (rw [if_pos (by rw [Int.toNat_natCast]; omega)]; rfl)) rfl
        · obtain ⟨y, rfl⟩ : ∃ y : Nat, j = (y : Int) := ⟨j.toNat, by omega⟩
          have h51i := h51 i (by omega)
          refine V_aload_n C d_md_at_26 0 rfl ?_
          refine V_getr C 32 24 51 (by decide) rfl rfl in_md (by decide) rfl wd_478 d_md_at_27 ?_
          refine V_iload_n C d_md_at_30 1 rfl ?_
          refine V_iald C 51 _ (by decide) rfl rfl (by omega) (by decide) d_md_at_31 ?_
          refine V_ti (b := (((σ 51 i).toNat : Nat) : Int)) (by omega) ?_
          refine V_iconst C d_md_at_32 ?_
          refine V_iload_n C d_md_at_33 2 rfl ?_
          refine V_imul C d_md_at_34 ?_
          refine V_ti (b := ((3 * y : Nat) : Int)) (by omega) ?_
          refine V_ishr C ((((σ 51 i).toNat / 2 ^ (3 * y) : Nat) : Int)) d_md_at_35 (zI_shr (by omega) (by omega)) ?_
          refine V_bipush C d_md_at_36 (by decide) ?_
          refine V_iand C ((((σ 51 i).toNat / 2 ^ (3 * y) &&& 7 : Nat) : Int)) d_md_at_38 (zI_and _ 7) ?_
          refine V_goto C 43 d_md_at_39 (by decide) ?_
          exact V_iret C hr d_md_at_43 (by first | (rw [if_neg (by omega)]) | (rw [if_neg (by rw [Int.toNat_natCast]; omega)]) | (rw [if_pos (by rw [Int.toNat_natCast]; omega)]; rfl)) rfl
end
