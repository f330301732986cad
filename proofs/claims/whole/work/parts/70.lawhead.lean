/-! THE LAW: the skeleton's head; rows -/
def R_law : String := "RoundPlansLaw"
def lw_P (b : Addr) (xs : List Int32) (args : Array Value) (s : State) : Prop := args = #[.ref b] ∧ s.IntsAt b xs ∧ xs.length ≤ 2560 ∧ (Jvm.Cond.and given_1 narrow_1).before args s = true
def lw_Q (_ : Array Value) (s : State) (o : Outcome) (t : State) : Prop := o = .returned (some (.int 1)) ∧ Framed s o t [] 55 4090
def lw_Z (below : List Frame) (a : Array Value) (s : State) : State → Prop := fun t => ∃ o, t.status = .running ∧ Ended t below o ∧ lw_Q a s o t
/-- the law's own end, with 1 on the stack, nothing written that was there before, its room as the claim has it -/
theorem lw_ret {p : Program} {l : Launch} {e : Env} {s : State} {m : MethodId} {below : List Frame} {meth : Method} {c : Code} {b : Nat} (hx : p.tables.exec = Jvm.exec) (hb : c.code = code) (hr : meth.sig.returnType = ret) (hlocks : meth.locks = false) {pc : Nat} {H : Heap} {ls : Array Slot} (hdg : decode code pc = .ok (.ireturn, 1)) : W p l e room_1 s m #[Value.ref b] below meth c H [] 55 4090 (lw_Z below #[Value.ref b] s) (F0 m pc ls [.int 1]) := by
  intro T hT X
  obtain ⟨fs, hret, hrun, hended, hW, hframe⟩ := X.leave (v := some (.int 1)) (hlocks := hlocks) (fun h => by rw [hr] at h; cases h)
  have hmeth' : T.vm.method? m = some meth := X.method'
  refine ⟨T.setFrames fs, ?_, .returned (some (.int 1)), hrun, hended, rfl, ⟨_, rfl⟩, hW, hframe⟩
  jvm_step X.here [X.here.top, hx, hb, hdg, hmeth', hr, ret, narrow_b1]
  (try refine ⟨rfl, ?_⟩); (try refine ⟨rfl, ?_⟩)
  first | (intro acts; rw [hret _ acts rfl rfl rfl]) | rw [hret _ _ rfl rfl rfl]
  exact Steps.refl _
/-- what holds at the law's entry: the machine, the code, the tables' words (any of lw_tbl by 'hts w (by decide +kernel)'), the script of L ints xs at the cell b, what the Statement gives of the start (any of its parts by flat_of_before) -/
def lw_At (p : Program) (s : State) (m : MethodId) (meth : Method) (c : Code) (b L : Nat) (xs : Nat → Int32) : Prop :=
  p.tables.exec = Jvm.exec ∧ c.code = code ∧ meth.sig.returnType = ret ∧ c.maxLocals = 4 ∧ s.vm.findClass R_law = some m.cls ∧ (∀ w ∈ lw_tbl, w.before #[Value.ref b] s = true) ∧ va_X b L xs s s.heap ∧ b < s.heap.size ∧ meth.locks = false ∧ (Jvm.Cond.and given_1 narrow_1).before #[Value.ref b] s = true
section LW
variable {p : Program} {l : Launch} {e : Env} {R : Room} {s : State} {m : MethodId} {args : Array Value} {below : List Frame} {meth : Method} {c : Code} {nL : Nat} {w : zW} {L : zY} {cl : List vw_C} {kc ks : Nat} {Q : State → Prop} {cc : ByteArray} {own : String} {pc : Nat} {lv lv' : List (Nat × Value)} {st : List Value} {σ : Nat → Nat → Int}
theorem V_sld (C : zC p s m args meth c cc nL own w L cl) {b Ln : Nat} {xs : Nat → Int32} (hX : va_X b Ln xs s s.heap) (hbl : b < s.heap.size) (hbA : ¬ zA w L.1 s.heap.size b) {z : Int} (i : Nat) (hz : z = (i : Int)) (hi : i < Ln) (hn : Ln < 2 ^ 31) (hd : decode cc pc = .ok (.iaload, 1)) (kk : V p l e R s m args below meth c nL w L cl kc ks Q (pc + 1) lv (.int (zI (xs i).toInt) :: st) σ) : V p l e R s m args below meth c nL w L cl kc ks Q pc lv (.int (zI z) :: .ref b :: st) σ := by
  intro ls H locs hl hP hS
  subst hz
  refine va_sld C.1 C.2.1 hX hbl hbA hS (zI_in hi hn) hd ?_
  rw [zI_cl (Nat.lt_trans hi hn), zI_of (xs i)]
  exact kk ls H locs hl hP hS
theorem V_slen (C : zC p s m args meth c cc nL own w L cl) {b Ln : Nat} {xs : Nat → Int32} (hX : va_X b Ln xs s s.heap) (hbl : b < s.heap.size) (hbA : ¬ zA w L.1 s.heap.size b) (hd : decode cc pc = .ok (.arraylength, 1)) (kk : V p l e R s m args below meth c nL w L cl kc ks Q (pc + 1) lv (.int (zI (Ln : Int)) :: st) σ) : V p l e R s m args below meth c nL w L cl kc ks Q pc lv (.ref b :: st) σ := by
  intro ls H locs hl hP hS
  refine va_slen C.1 C.2.1 hX hbl hbA hS hd ?_
  have h := kk ls H locs hl hP hS
  rw [zI_nat] at h
  exact h
theorem V_same (C : zC p s m args meth c cc nL own w L cl) {x : Int32} {off : Int} (tgt : Nat) (hd : decode cc pc = .ok (.if_icmp .eq off, 3)) (ht : (pc : Int) + off = (tgt : Int)) (k : V p l e R s m args below meth c nL w L cl kc ks Q tgt lv st σ) : V p l e R s m args below meth c nL w L cl kc ks Q pc lv (.int x :: .int x :: st) σ :=
  fun ls H locs hl hP hS => lv_icmp_eq C.1 C.2.1 hd ht (fun _ => k ls H locs hl hP hS) (fun h => absurd rfl h)
theorem V_lsame (C : zC p s m args meth c cc nL own w L cl) {y : Int64} (hd : decode cc pc = .ok (.lcmp, 1)) (k : V p l e R s m args below meth c nL w L cl kc ks Q (pc + 1) lv (.int (zI 0) :: st) σ) : V p l e R s m args below meth c nL w L cl kc ks Q pc lv (.long y :: .long y :: st) σ :=
  fun ls H locs hl hP hS => W.lcmp C.1 C.2.1 hd (by
    have e : lg_cmp y y = zI 0 := by unfold lg_cmp; simp; rfl
    rw [e]; exact k ls H locs hl hP hS)
theorem V_iandx (C : zC p s m args meth c cc nL own w L cl) {x y : Int32} (hd : decode cc pc = .ok (.iand, 1)) (k : V p l e R s m args below meth c nL w L cl kc ks Q (pc + 1) lv (.int (x &&& y) :: st) σ) : V p l e R s m args below meth c nL w L cl kc ks Q pc lv (.int y :: .int x :: st) σ :=
  fun ls H locs hl hP hS => lv_iand C.1 C.2.1 hd (k ls H locs hl hP hS)
theorem V_landx (C : zC p s m args meth c cc nL own w L cl) {x y : Int64} (hd : decode cc pc = .ok (.land, 1)) (k : V p l e R s m args below meth c nL w L cl kc ks Q (pc + 1) lv (.long (x &&& y) :: st) σ) : V p l e R s m args below meth c nL w L cl kc ks Q pc lv (.long y :: .long x :: st) σ :=
  fun ls H locs hl hP hS => lv_land C.1 C.2.1 hd (k ls H locs hl hP hS)
theorem V_lorx (C : zC p s m args meth c cc nL own w L cl) {x y : Int64} (hd : decode cc pc = .ok (.lor, 1)) (k : V p l e R s m args below meth c nL w L cl kc ks Q (pc + 1) lv (.long (x ||| y) :: st) σ) : V p l e R s m args below meth c nL w L cl kc ks Q pc lv (.long y :: .long x :: st) σ :=
  fun ls H locs hl hP hS => lv_lor C.1 C.2.1 hd (k ls H locs hl hP hS)
theorem V_i2lx (C : zC p s m args meth c cc nL own w L cl) {x : Int32} (hd : decode cc pc = .ok (.i2l, 1)) (k : V p l e R s m args below meth c nL w L cl kc ks Q (pc + 1) lv (.long x.toInt64 :: st) σ) : V p l e R s m args below meth c nL w L cl kc ks Q pc lv (.int x :: st) σ :=
  fun ls H locs hl hP hS => lv_i2l C.1 C.2.1 hd rfl (k ls H locs hl hP hS)
theorem V_lshlx (C : zC p s m args meth c cc nL own w L cl) {x : Int64} {y : Int32} (hd : decode cc pc = .ok (.lshl, 1)) (k : V p l e R s m args below meth c nL w L cl kc ks Q (pc + 1) lv (.long (x <<< (y.toInt64 &&& 63)) :: st) σ) : V p l e R s m args below meth c nL w L cl kc ks Q pc lv (.int y :: .long x :: st) σ :=
  fun ls H locs hl hP hS => lv_lshl C.1 C.2.1 hd rfl (k ls H locs hl hP hS)
theorem V_ly {y : Int64} (k : V p l e R s m args below meth c nL w L cl kc ks Q pc lv (.long (zL y.toInt) :: st) σ) : V p l e R s m args below meth c nL w L cl kc ks Q pc lv (.long y :: st) σ := by
  have e : zL y.toInt = y := Int64.ofInt_toInt y
  rw [e] at k
  exact k
theorem V_tabOut (C : zC p s m args meth c cc nL own w L cl) {dflt lo hi : Int} {offs : Array Int} {len : Nat} {x : Int32} (tgt : Nat) (hd : decode cc pc = .ok (.tableswitch dflt lo hi offs, len)) (h : x.toInt < lo ∨ hi < x.toInt) (ht : (pc : Int) + dflt = (tgt : Int)) (k : V p l e R s m args below meth c nL w L cl kc ks Q tgt lv st σ) : V p l e R s m args below meth c nL w L cl kc ks Q pc lv (.int x :: st) σ :=
  fun ls H locs hl hP hS => lv_tableOut C.1 C.2.1 hd h ht (k ls H locs hl hP hS)
theorem V_tabIn (C : zC p s m args meth c cc nL own w L cl) {dflt lo hi off : Int} {offs : Array Int} {len : Nat} {x : Int32} (tgt : Nat) (hd : decode cc pc = .ok (.tableswitch dflt lo hi offs, len)) (h1 : ¬ x.toInt < lo) (h2 : ¬ hi < x.toInt) (ho : offs[(x.toInt - lo).toNat]? = some off) (ht : (pc : Int) + off = (tgt : Int)) (k : V p l e R s m args below meth c nL w L cl kc ks Q tgt lv st σ) : V p l e R s m args below meth c nL w L cl kc ks Q pc lv (.int x :: st) σ :=
  fun ls H locs hl hP hS => lv_tableIn C.1 C.2.1 hd h1 h2 ho ht (k ls H locs hl hP hS)
end LW
theorem rI_x (x : Int32) : rI x.toInt := ⟨by have := Int32.le_toInt x; omega, by have := Int32.toInt_lt x; omega⟩
theorem rL_x (x : Int64) : rL x.toInt := ⟨by have := Int64.le_toInt x; omega, by have := Int64.toInt_lt x; omega⟩
