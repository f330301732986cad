/-! CONSTRUCTORS: the world is a list that grows -/
def zCr (p : Program) (s : State) (m : MethodId) (args : Array Value) (meth : Method) (c : Code) (cc : ByteArray) (nL : Nat) (own : String) (D : va_G) (cl : List vw_C) (tys : List (ClassId × FieldType)) (A : Nat → Prop) : Prop :=
  p.tables.exec = Jvm.exec ∧ c.code = cc ∧ c.maxLocals = nL ∧ s.vm.findClass own = some m.cls ∧ (∀ x ∈ zT, x.before args s = true) ∧ va_K D cl tys s ∧ meth.locks = false ∧ ∀ q, s.heap.size ≤ q → A q
def VR (p : Program) (l : Launch) (e : Env) (R : Room) (s : State) (m : MethodId) (args : Array Value) (below : List Frame) (meth : Method) (c : Code) (nL : Nat) (D : va_G) (cl : List vw_C) (A : Nat → Prop) (kc ks : Nat) (Q : State → Prop) (pc : Nat) (lv : List (Nat × Value)) (st : List Value) (ws : va_W) : Prop :=
  ∀ (ls : Array Slot) (H : Heap) (locs : List Loc), lv_has ls nL lv → va_P D cl ws H → va_D A ws → va_S A s.heap H locs → W p l e R s m args below meth c H locs kc ks Q (F0 m pc ls st)
section CR
variable {p : Program} {l : Launch} {e : Env} {R : Room} {s : State} {m : MethodId} {args : Array Value} {below : List Frame} {meth : Method} {c : Code} {nL : Nat} {D : va_G} {cl : List vw_C} {tys : List (ClassId × FieldType)} {A : Nat → Prop} {kc ks : Nat} {Q : State → Prop} {cc : ByteArray} {own : String} {pc : Nat} {lv lv' : List (Nat × Value)} {st : List Value} {ws : va_W}
theorem VR_iconst (C : zCr p s m args meth c cc nL own D cl tys A) {n : Int} (hd : decode cc pc = .ok (.iconst n, 1)) (k : VR p l e R s m args below meth c nL D cl A kc ks Q (pc + 1) lv (.int (zI n) :: st) ws) : VR p l e R s m args below meth c nL D cl A kc ks Q pc lv st ws :=
  fun ls H locs hl hP hD hS => lv_iconst C.1 C.2.1 hd rfl (k ls H locs hl hP hD hS)
theorem VR_bipush (C : zCr p s m args meth c cc nL own D cl tys A) {n : Int} (hd : decode cc pc = .ok (.bipush n, 2)) (hv : (Int8.ofInt n).toInt32 = zI n) (k : VR p l e R s m args below meth c nL D cl A kc ks Q (pc + 2) lv (.int (zI n) :: st) ws) : VR p l e R s m args below meth c nL D cl A kc ks Q pc lv st ws :=
  fun ls H locs hl hP hD hS => lv_bipush C.1 C.2.1 hd hv (k ls H locs hl hP hD hS)
theorem VR_sipush (C : zCr p s m args meth c cc nL own D cl tys A) {n : Int} (hd : decode cc pc = .ok (.sipush n, 3)) (hv : (Int16.ofInt n).toInt32 = zI n) (k : VR p l e R s m args below meth c nL D cl A kc ks Q (pc + 3) lv (.int (zI n) :: st) ws) : VR p l e R s m args below meth c nL D cl A kc ks Q pc lv st ws :=
  fun ls H locs hl hP hD hS => lv_sipush C.1 C.2.1 hd hv (k ls H locs hl hP hD hS)
theorem VR_ldc (C : zCr p s m args meth c cc nL own D cl tys A) {ix : Nat} (z : Int) (hd : decode cc pc = .ok (.ldc ix, 2)) (hc : Jvm.Cond.constant own ix (zI z) ∈ zT) (k : VR p l e R s m args below meth c nL D cl A kc ks Q (pc + 2) lv (.int (zI z) :: st) ws) : VR p l e R s m args below meth c nL D cl A kc ks Q pc lv st ws :=
  fun ls H locs hl hP hD hS => lv_ldc C.1 C.2.1 C.2.2.2.1 (C.2.2.2.2.1 _ hc) hd (k ls H locs hl hP hD hS)
theorem VR_ldc2 (C : zCr p s m args meth c cc nL own D cl tys A) {ix : Nat} (z : Int) (hd : decode cc pc = .ok (.ldc2_w ix, 3)) (hc : Jvm.Cond.constantLong own ix (zL z) ∈ zT) (k : VR p l e R s m args below meth c nL D cl A kc ks Q (pc + 3) lv (.long (zL z) :: st) ws) : VR p l e R s m args below meth c nL D cl A kc ks Q pc lv st ws :=
  fun ls H locs hl hP hD hS => lv_ldc2 C.1 C.2.1 C.2.2.2.1 (C.2.2.2.2.1 _ hc) hd (k ls H locs hl hP hD hS)
theorem VR_iload_n (C : zCr p s m args meth c cc nL own D cl tys A) {i : Fin 4} {x : Int32} (hd : decode cc pc = .ok (.iload_n i, 1)) (k0 : Nat) (hk : lv[k0]? = some ((i : Nat), .int x)) (k : VR p l e R s m args below meth c nL D cl A kc ks Q (pc + 1) lv (.int x :: st) ws) : VR p l e R s m args below meth c nL D cl A kc ks Q pc lv st ws :=
  fun ls H locs hl hP hD hS => lv_iload_n C.1 C.2.1 hd rfl (lv_at hl k0 hk) (k ls H locs hl hP hD hS)
theorem VR_aload_n (C : zCr p s m args meth c cc nL own D cl tys A) {i : Fin 4} {x : Nat} (hd : decode cc pc = .ok (.aload_n i, 1)) (k0 : Nat) (hk : lv[k0]? = some ((i : Nat), .ref x)) (k : VR p l e R s m args below meth c nL D cl A kc ks Q (pc + 1) lv (.ref x :: st) ws) : VR p l e R s m args below meth c nL D cl A kc ks Q pc lv st ws :=
  fun ls H locs hl hP hD hS => lv_aload_n C.1 C.2.1 hd rfl (lv_at hl k0 hk) (k ls H locs hl hP hD hS)
theorem VR_istore_n (C : zCr p s m args meth c cc nL own D cl tys A) {i : Fin 4} {x : Int32} (hd : decode cc pc = .ok (.istore_n i, 1)) (hn : (i : Nat) < nL) (hl : ((i : Nat), Value.int x) :: lv.filter (fun q => !(q.1 == (i : Nat)) && !(q.1 + 1 == (i : Nat) && q.2.category == 2)) = lv') (k : VR p l e R s m args below meth c nL D cl A kc ks Q (pc + 1) lv' st ws) : VR p l e R s m args below meth c nL D cl A kc ks Q pc lv (.int x :: st) ws :=
  fun ls H locs hls hP hD hS => lv_istore_n C.1 C.2.1 hd rfl hls hn hl (fun ls' hl' => k ls' H locs hl' hP hD hS)
theorem VR_iinc (C : zCr p s m args meth c cc nL own D cl tys A) {i : Nat} {n z : Int} (hd : decode cc pc = .ok (.iinc i n, 3)) (k0 : Nat) (hk : lv[k0]? = some (i, .int (zI z))) (hn : i < nL) (hl : (i, Value.int (zI (z + n))) :: lv.filter (fun q => !(q.1 == i) && !(q.1 + 1 == i && q.2.category == 2)) = lv') (k : VR p l e R s m args below meth c nL D cl A kc ks Q (pc + 3) lv' st ws) : VR p l e R s m args below meth c nL D cl A kc ks Q pc lv st ws :=
  fun ls H locs hls hP hD hS => lv_iinc C.1 C.2.1 hd hls hk (zI_add z n) hn hl (fun ls' hl' => k ls' H locs hl' hP hD hS)
theorem VR_dup (C : zCr p s m args meth c cc nL own D cl tys A) {v : Value} (hd : decode cc pc = .ok (.dup, 1)) (hv : v.category = 1) (k : VR p l e R s m args below meth c nL D cl A kc ks Q (pc + 1) lv (v :: v :: st) ws) : VR p l e R s m args below meth c nL D cl A kc ks Q pc lv (v :: st) ws :=
  fun ls H locs hl hP hD hS => lv_dup C.1 C.2.1 hd hv (k ls H locs hl hP hD hS)
theorem VR_goto (C : zCr p s m args meth c cc nL own D cl tys A) {off : Int} (tgt : Nat) (hd : decode cc pc = .ok (.goto off, 3)) (ht : (pc : Int) + off = (tgt : Int)) (k : VR p l e R s m args below meth c nL D cl A kc ks Q tgt lv st ws) : VR p l e R s m args below meth c nL D cl A kc ks Q pc lv st ws :=
  fun ls H locs hl hP hD hS => lv_goto C.1 C.2.1 hd ht (k ls H locs hl hP hD hS)
theorem VR_sub (ks' : List Nat) (hl : lv_pick lv ks' = lv') (k : VR p l e R s m args below meth c nL D cl A kc ks Q pc lv' st ws) : VR p l e R s m args below meth c nL D cl A kc ks Q pc lv st ws :=
  fun ls H locs hls hP hD hS => k ls H locs (lv_sub hls ks' hl) hP hD hS
theorem VR_cmpge (C : zCr p s m args meth c cc nL own D cl tys A) {a b off : Int} (tgt : Nat) (hd : decode cc pc = .ok (.if_icmp .ge off, 3)) (ht : (pc : Int) + off = (tgt : Int)) (ha : rI a) (hb : rI b) (kt : b ≤ a → VR p l e R s m args below meth c nL D cl A kc ks Q tgt lv st ws) (kf : a < b → VR p l e R s m args below meth c nL D cl A kc ks Q (pc + 3) lv st ws) : VR p l e R s m args below meth c nL D cl A kc ks Q pc lv (.int (zI b) :: .int (zI a) :: st) ws :=
  fun ls H locs hl hP hD hS => lv_icmp_ge C.1 C.2.1 hd ht (fun h => kt ((zI_le hb ha).mp h) ls H locs hl hP hD hS) (fun h => kf (Int.not_le.mp (fun z => h ((zI_le hb ha).mpr z))) ls H locs hl hP hD hS)
theorem VR_astore_n (C : zCr p s m args meth c cc nL own D cl tys A) {i : Fin 4} {x : Nat} (hd : decode cc pc = .ok (.astore_n i, 1)) (hn : (i : Nat) < nL) (hl : ((i : Nat), Value.ref x) :: lv.filter (fun q => !(q.1 == (i : Nat)) && !(q.1 + 1 == (i : Nat) && q.2.category == 2)) = lv') (k : VR p l e R s m args below meth c nL D cl A kc ks Q (pc + 1) lv' st ws) : VR p l e R s m args below meth c nL D cl A kc ks Q pc lv (.ref x :: st) ws :=
  fun ls H locs hls hP hD hS => lv_astore_n C.1 C.2.1 hd rfl hls hn hl (fun ls' hl' => k ls' H locs hl' hP hD hS)
theorem VR_newa (C : zCr p s m args meth c cc nL own D cl tys A) {atype : ArrayType} {ty : FieldType} (hty : newarray.typeOf atype = ty) (harr : Cond.arrayClass ty ∈ zT) (t0 : Nat) {cA : ClassId} (ht : tys[t0]? = some (cA, ty)) (hone : ∀ c1 c2, va_RA s c1 ty → va_RA s c2 ty → c1 = c2) {n : Int} (N' : Nat) (a0 : vp_A) (ha : ∀ cA : ClassId, vp_cell cA a0 = arrV cA N' (fun _ => defaultValue ty)) (hn : ¬ zI n < 0) (hN : (zI n).toNatClampNeg = N') (hbytes : N' * componentBytes ty ≤ 536870912) (hcells : kc + 1 ≤ R.cells) (hslots : ks + N' ≤ R.slots) (hd : decode cc pc = .ok (.newarray atype, 2)) {kc' ks' : Nat} (h1 : kc + 1 = kc') (h2 : ks + N' = ks') (k : ∀ q, VR p l e R s m args below meth c nL D cl A kc' ks' Q (pc + 2) lv (.ref q :: st) (ws ++ [(q, .inl (cA, a0))])) : VR p l e R s m args below meth c nL D cl A kc ks Q pc lv (.int (zI n) :: st) ws := by
  intro ls H locs hl hP hD hS
  subst h1; subst h2
  refine va_newa C.1 C.2.1 (by rw [hty]; exact C.2.2.2.2.1 _ harr) hty C.2.2.2.2.2.1 hP hD hS C.2.2.2.2.2.2.2 ha hn hN hbytes hcells hslots hd (fun q cA' H1 hK hP1 hD1 hS1 => ?_)
  have e : cA' = cA := hone _ _ ((hK.2 tys.length (cA', ty) (by simp)).2) ((C.2.2.2.2.2.1.2 t0 _ ht).2)
  subst e
  exact k q ls H1 locs hl hP1 hD1 hS1
theorem VR_putF (C : zCr p s m args meth c cc nL own D cl tys A) (hin2 : meth.name = "<init>") (q0 : Nat) {a ci : Nat} {fs : List Value} (he : ws[q0]? = some (a, .inr (ci, fs))) {Cn : String} {T : u_T} {N : Nat} (hc : cl[ci]? = some (Cn, T, N)) (hin : ∀ x ∈ u_ws Cn T N, x ∈ zT) (ty0 : Nat → FieldType) (hty : ∀ k, k < N → parseFieldDescriptor (T k).2.2.1 = some (ty0 k)) (hnm : ∀ a, a < N → ∀ b, b < N → a ≠ b → (T a).2.1 ≠ (T b).2.1) (k : Nat) (hk : k < N) {ix : Nat} (hlk : Cond.fieldLink own ix (T k).1 (T k).2.1 (T k).2.2.1 ∈ zT) (hfin : (T k).2.2.2 = true) (hdecl : (T k).1 = own) {v : Value} (hn : narrow (ty0 k) v = v) (hfit : fits (ty0 k) v = true) (hl0 : k < fs.length) (hd : decode cc pc = .ok (.putfield ix, 3)) {ws' : va_W} (hws : ws.set q0 (a, .inr (ci, fs.set k v)) = ws') (kk : VR p l e R s m args below meth c nL D cl A kc ks Q (pc + 3) lv st ws') : VR p l e R s m args below meth c nL D cl A kc ks Q pc lv (v :: .ref a :: st) ws := by
  intro ls H locs hl hP hD hS
  subst hws
  exact va_putF C.1 C.2.1 C.2.2.2.2.1 hin ty0 hty hnm C.2.2.2.1 C.2.2.2.2.2.1 hP hD hS q0 he hc k hk (C.2.2.2.2.1 _ hlk) (fun _ h9 => h9) hfin hin2 hdecl (hty k hk) hn hfit hl0 hd (fun H1 locs1 hP1 hD1 hS1 => kk ls H1 locs1 hl hP1 hD1 hS1)
theorem VR_put (C : zCr p s m args meth c cc nL own D cl tys A) (q0 : Nat) {a ci : Nat} {fs : List Value} (he : ws[q0]? = some (a, .inr (ci, fs))) {Cn : String} {T : u_T} {N : Nat} (hc : cl[ci]? = some (Cn, T, N)) (hin : ∀ x ∈ u_ws Cn T N, x ∈ zT) (ty0 : Nat → FieldType) (hty : ∀ k, k < N → parseFieldDescriptor (T k).2.2.1 = some (ty0 k)) (hnm : ∀ a, a < N → ∀ b, b < N → a ≠ b → (T a).2.1 ≠ (T b).2.1) (k : Nat) (hk : k < N) {ix : Nat} (hlk : Cond.fieldLink own ix (T k).1 (T k).2.1 (T k).2.2.1 ∈ zT) (hfin : (T k).2.2.2 = false) {v : Value} (hn : narrow (ty0 k) v = v) (hfit : fits (ty0 k) v = true) (hl0 : k < fs.length) (hd : decode cc pc = .ok (.putfield ix, 3)) {ws' : va_W} (hws : ws.set q0 (a, .inr (ci, fs.set k v)) = ws') (kk : VR p l e R s m args below meth c nL D cl A kc ks Q (pc + 3) lv st ws') : VR p l e R s m args below meth c nL D cl A kc ks Q pc lv (v :: .ref a :: st) ws := by
  intro ls H locs hl hP hD hS
  subst hws
  exact va_put C.1 C.2.1 C.2.2.2.2.1 hin ty0 hty hnm C.2.2.2.1 C.2.2.2.2.2.1 hP hD hS q0 he hc k hk (C.2.2.2.2.1 _ hlk) (fun _ h9 => h9) hfin (hty k hk) hn hfit hl0 hd (fun H1 locs1 hP1 hD1 hS1 => kk ls H1 locs1 hl hP1 hD1 hS1)
theorem VR_get (C : zCr p s m args meth c cc nL own D cl tys A) (q0 : Nat) {a ci : Nat} {fs : List Value} (he : ws[q0]? = some (a, .inr (ci, fs))) {Cn : String} {T : u_T} {N : Nat} (hc : cl[ci]? = some (Cn, T, N)) (hin : ∀ x ∈ u_ws Cn T N, x ∈ zT) (k : Nat) (hk : k < N) {ix : Nat} (hlk : Cond.fieldLink own ix (T k).1 (T k).2.1 (T k).2.2.1 ∈ zT) {v : Value} (hv : fs[k]? = some v) (hd : decode cc pc = .ok (.getfield ix, 3)) (kk : VR p l e R s m args below meth c nL D cl A kc ks Q (pc + 3) lv (v :: st) ws) : VR p l e R s m args below meth c nL D cl A kc ks Q pc lv (.ref a :: st) ws :=
  fun ls H locs hl hP hD hS => va_get C.1 C.2.1 C.2.2.2.2.1 hin C.2.2.2.1 C.2.2.2.2.2.1 hP q0 he hc k hk (C.2.2.2.2.1 _ hlk) (fun _ h9 => h9) hv hd (kk ls H locs hl hP hD hS)
theorem VR_iast (C : zCr p s m args meth c cc nL own D cl tys A) (q0 t0 : Nat) {a : Nat} {cA : ClassId} {n : Nat} {f : Nat → Int32} (he : ws[q0]? = some (a, .inl (cA, n, .inl f))) (ht : tys[t0]? = some (cA, .int)) {i : Nat} {x : Int32} (hi : i < n) (hn : n < 2 ^ 31) (hd : decode cc pc = .ok (.iastore, 1)) {ws' : va_W} (hws : ws.set q0 (a, .inl (cA, n, .inl (fun j => if j = i then x else f j))) = ws') (kk : VR p l e R s m args below meth c nL D cl A kc ks Q (pc + 1) lv st ws') : VR p l e R s m args below meth c nL D cl A kc ks Q pc lv (.int x :: .int (zI (i : Int)) :: .ref a :: st) ws := by
  intro ls H locs hl hP hD hS
  refine va_iast C.1 C.2.1 C.2.2.2.2.2.1 hP hD hS q0 t0 he ht (zI_in hi hn) hd (fun H1 locs1 hP1 hD1 hS1 => ?_)
  rw [zI_cl (Nat.lt_trans hi hn)] at hP1 hD1
  subst hws
  exact kk ls H1 locs1 hl hP1 hD1 hS1
theorem VR_obj (C : zCr p s m args meth c cc nL own D cl tys A) {ix a : Nat} (h1 : Cond.methodLink own ix Lib.objectInit ∈ zT) (h2 : Cond.instanceMethod Lib.objectInit ∈ zT) (h3 : Cond.code Lib.objectInit ⟨#[0xb1]⟩ 1 none ∈ zT) (hd : decode cc pc = .ok (.invokespecial ix, 3)) (hf : 1 ≤ R.frames) (hr : (st.map fun v => v.category).sum + 12 ≤ R.locals) (kk : VR p l e R s m args below meth c nL D cl A kc ks Q (pc + 3) lv st ws) : VR p l e R s m args below meth c nL D cl A kc ks Q pc lv (.ref a :: st) ws := by
  intro ls H locs hl hP hD hS
  refine W.objInit C.1 C.2.1 C.2.2.2.1 (C.2.2.2.2.1 _ h1) (C.2.2.2.2.1 _ h2) (C.2.2.2.2.1 _ h3) (g := F0 m pc ls (.ref a :: st)) rfl (by rw [C.2.2.1]; exact hl.1) rfl hd hf (by show 2 * 0 + _ + 12 ≤ _; omega) ?_
  exact kk ls H locs hl hP hD hS
theorem VR_new (C : zCr p s m args meth c cc nL own D cl tys A) {Cn : String} {T : u_T} {N ci ix : Nat} (hin : ∀ x ∈ u_ws Cn T N, x ∈ zT) (ty : Nat → FieldType) (hty : ∀ k, k < N → parseFieldDescriptor (T k).2.2.1 = some (ty k)) (hcl : Cond.classLink own ix Cn ∈ zT) (hinst : Cond.instantiable Cn N ∈ zT) (hini : Cond.initialized Cn ∈ zT) (hc : cl[ci]? = some (Cn, T, N)) (fs : List Value) (hfs : ∀ j, j < N → defaultValue (ty j) = vp_V fs j) (hcells : kc + 1 ≤ R.cells) (hslots : ks + N ≤ R.slots) (hd : decode cc pc = .ok (.new ix, 3)) {kc' ks' : Nat} (h1 : kc + 1 = kc') (h2 : ks + N = ks') (k : ∀ q, VR p l e R s m args below meth c nL D cl A kc' ks' Q (pc + 3) lv (.ref q :: st) (ws ++ [(q, .inr (ci, fs))])) : VR p l e R s m args below meth c nL D cl A kc ks Q pc lv st ws := by
  intro ls H locs hl hP hD hS
  subst h1; subst h2
  exact va_new C.1 C.2.1 C.2.2.2.2.1 hin ty hty C.2.2.2.1 (C.2.2.2.2.1 _ hcl) (C.2.2.2.2.1 _ hinst) (C.2.2.2.2.1 _ hini) C.2.2.2.2.2.1 hP hD hS C.2.2.2.2.2.2.2 hc hfs hcells hslots hd (fun q H1 hP1 hD1 hS1 => k q ls H1 locs hl hP1 hD1 hS1)
/-- a constructor's contract -/
def zPr (D : va_G) (cl : List vw_C) (tys : List (ClassId × FieldType)) (wc : va_W) (sz : Nat) : State → Prop := fun U => U.heap.size = sz ∧ va_P D cl wc U.heap ∧ va_K D cl tys U ∧ va_D (fun _ => True) wc
def zQr (D : va_G) (cl : List vw_C) (wc : va_W) (w1 : (Nat → Nat) → va_W) (sz : Nat) : Array Value → State → Outcome → State → Prop := va_Qv (fun _ : Nat → Nat => True) (fun u t => va_P D cl (w1 u) t.heap ∧ va_D (va_A wc sz) (w1 u)) (va_A wc sz)
def zMr (l : Launch) (D : va_G) (cl : List vw_C) (tys : List (ClassId × FieldType)) (g : zG) (rm : Room) (av : List Value) (wc : va_W) (w1 : (Nat → Nat) → va_W) (mc ms : Nat) : Prop := ∀ sz, Met l g.1 (zc g :: zT) rm (va_Pc av (zPr D cl tys wc sz)) (zQr D cl wc w1 sz) mc ms (va_A wc sz)
theorem zMr.of (g : zG) {rm : Room} {av : List Value} {wc : va_W} {w1 : (Nat → Nat) → va_W} {mc ms : Nat} (hy : plainName g.1.cls = true) (hin : g.1.name = "<init>") (hav : (lg_sl av).length ≤ g.2.2.1) (hlv : lv_args 0 av = lv)
    (body : ∀ (p : Program) (e : Env) (s : State) (m : MethodId) (args : Array Value) (below : List Frame) (meth : Method) (c : Code), zCr p s m args meth c g.2.1 g.2.2.1 g.1.cls D cl tys (va_A wc s.heap.size) → meth.sig.returnType = g.2.2.2 → meth.name = "<init>" → VR p l e rm s m args below meth c g.2.2.1 D cl (va_A wc s.heap.size) 0 0 (MQ below (zQr D cl wc w1 s.heap.size) args s mc ms (va_A wc s.heap.size)) 0 lv [] wc) : zMr l D cl tys g rm av wc w1 mc ms := by
  intro sz
  refine Met.ofW (cc := g.2.1) (maxL := g.2.2.1) (ret := g.2.2.2) hy rfl ?_
  intro p e s m args below meth c s₁ B hml hv
  obtain ⟨rfl, rfl, hP, hK, hD⟩ := hv
  have hb := body p e s m _ below meth c ⟨B.exec, B.bytes, hml, findClass_of_methodNamed B.named, fun x hx => atoms_spec (ws := zc g :: zT) B.pre x (List.mem_cons_of_mem _ hx), hK, B.notSynchronized, fun q h => Or.inr h⟩ B.returns ((name_of_methodNamed B.named B.method).1.trans hin)
  rw [lg_entry_eq]
  subst hlv
  exact hb _ _ _ (lv_entry av hav) hP hD.self va_S.rf
theorem VR_ret {wc : va_W} (C : zCr p s m args meth c cc nL own D cl tys (va_A wc s.heap.size)) {w1 : (Nat → Nat) → va_W} (hr : meth.sig.returnType = none) (hd : decode cc pc = .ok (.return_, 1)) (u : Nat → Nat) (hu : ws = w1 u) : VR p l e R s m args below meth c nL D cl (va_A wc s.heap.size) kc ks (MQ below (zQr D cl wc w1 s.heap.size) args s kc ks (va_A wc s.heap.size)) pc lv [] ws := by
  subst hu
  intro ls H locs hl hP hD hS
  exact W.vret C.1 C.2.1 hr (fun t ht hW => ⟨⟨u, rfl, trivial, by rw [ht]; exact hP, hD⟩, hS.F ht⟩) hS.2.2 hd C.2.2.2.2.2.2.1
theorem VR_callI (C : zCr p s m args meth c cc nL own D cl tys A) {g : zG} {rm : Room} {n ix b : Nat} {As rest st0 : List Value} {wc wr : va_W} {w1 : (Nat → Nat) → va_W} {mc ms : Nat} (hM : zMr l D cl tys g rm (.ref b :: As) wc w1 mc ms) (isC isR : List Nat) (hC : isC.map (fun i => ws[i]?) = wc.map some) (hR : isR.map (fun i => ws[i]?) = wr.map some) (hnR : va_nd isR = true) (hdis : ∀ i ∈ isR, i ∉ isC) (hnC : va_nd isC = true) (h1 : Cond.methodLink own ix g.1 ∈ zT) (h2 : Cond.instanceMethod g.1 ∈ zT) (h4 : Cond.initialized g.1.cls ∈ zT) (h5 : zc g ∈ zT) (hret : g.2.2.2 = none) (hO : zO g n) (hin : g.1.name = "<init>") (hrm : rm.cells = mc ∧ rm.slots = ms ∧ rm.frames + 1 ≤ R.frames ∧ 8 + (g.2.2.1 + 11) + rm.locals ≤ R.locals) (hn : As.length = n) (hst : st0 = As.reverse ++ .ref b :: rest) (hW : (rest.map fun v => v.category).sum ≤ 8) (hd : decode cc pc = .ok (.invokespecial ix, 3)) (hf : kc + mc ≤ R.cells ∧ ks + ms ≤ R.slots) {kc' ks' : Nat} (e1 : kc + mc = kc') (e2 : ks + ms = ks') (kk : ∀ u : Nat → Nat, VR p l e R s m args below meth c nL D cl A kc' ks' Q (pc + 3) lv rest (wr ++ w1 u)) : VR p l e R s m args below meth c nL D cl A kc ks Q pc lv st0 ws := by
  intro ls H locs hl hP hD hS
  subst e1; subst e2
  have hPc : va_P D cl wc H := fun k q hq => by
    have h1 : (isC.map (fun i => ws[i]?))[k]? = some (some q) := by rw [hC, List.getElem?_map, hq]; rfl
    rw [List.getElem?_map] at h1
    cases hi : isC[k]? with
    | none => rw [hi] at h1; cases h1
    | some i => rw [hi] at h1; exact hP i q (Option.some.inj h1)
  have hDc : va_D A wc := hD.sub isC hnC hC
  have hFc := va_free (wc := wc) hD hS C.2.2.2.2.2.2.2 isC hC
  have hcode : zc g = Cond.code g.1 g.2.1 g.2.2.1 none := by unfold zc; rw [hret]
  refine va_callv (va_runI (As := As) (rest := rest) ⟨C.1, C.2.1, C.2.2.1, C.2.2.2.1, C.2.2.2.2.1⟩ (hM H.size) (cwI (bytes := g.2.1) (maxL := g.2.2.1) (ws' := zT) n C.2.2.2.2.1 (zgN h5) (by rw [hcode]) hrm.1 hrm.2.1 (C.2.2.2.2.1 _ h4) (C.2.2.2.2.1 _ h1) (C.2.2.2.2.1 _ h2) hin hO hrm.2.2) ⟨fun a U g' mk q => ?_, fun U hU hW' => ⟨rfl, by rw [hU], by rw [hU]; exact hPc, va_K.moved hW'.alike C.2.2.2.2.2.1, hDc.weaken (fun _ _ _ _ => trivial)⟩⟩ rfl hn hl.1 hst (lv_room hW) hd hf) hS (fun q _ h => hFc q h) hFc (fun u t H1 locs1 ht hvm hp hB hz1 hk1 hS1 => ?_)
  · obtain ⟨q0, q1, qP, qK, qD⟩ := q
    exact ⟨q0, q1, qP, va_K.moved (u := U) (U := U.calling g' mk a) (Vm.Alike.refl U.vm) qK, qD⟩
  · obtain ⟨hP1, hD1⟩ := hB
    rw [ht] at hP1
    obtain ⟨hP2, hD2⟩ := va_join (wr := wr) (w1 := w1 u) hP hD isC isR hC hR hnR hdis hk1 hFc hP1 hD1
    exact kk u ls H1 locs1 hl hP2 hD2 hS1
theorem va_P.setF {a e0 : _} {p0 : Nat} {e1 : va_E} {H H1 : Heap} (h : va_P D cl ws H) (hD : va_D A ws) (hp : ws[p0]? = some (a, e0)) (he : va_at D cl (a, e1) H1) (oq : ∀ q : Nat, q < H.size → q ≠ a → H1[q]? = H[q]?) : va_P D cl (ws.set p0 (a, e1)) H1 := by
  intro k q hk
  by_cases e : k = p0
  · subst e
    rw [List.getElem?_set_self (List.getElem?_eq_some_iff.mp hp).1] at hk
    cases hk
    exact he
  · rw [List.getElem?_set_ne (Ne.symm e)] at hk
    exact (h k q hk).kept (oq q.1 (h k q hk).lt (fun z => e (hD.1 k p0 q (a, e0) hk hp z)))
/-- a call on one int array -/
def zw1 (D : va_G) (a : Nat) (cI cL cB : ClassId) : zW := (fun _ => a, D, fun i => match i with | 0 => cI | 1 => cL | _ => cB)
def zL1 (n0 : Nat) : zY := (1, fun _ => (0, n0, []), [])
theorem VR_fill {cI cL cB : ClassId} (C : zCr p s m args meth c cc nL own D cl [(cI, .int), (cL, .long), (cB, .boolean)] A) (q0 : Nat) {a n0 ix n : Nat} {g : zG} {rm : Room} {As rest st0 : List Value} {σ σ2 : Nat → Nat → Int} (he : ws[q0]? = some (a, .inl (cI, n0, .inl (fun j => zI (σ 0 j))))) (hM : zMv l (zw1 D a cI cL cB) (zL1 n0) cl g rm As σ σ2) (h1 : Cond.methodLink own ix g.1 ∈ zT) (h2 : Cond.static g.1 ∈ zT) (h3 : Cond.initialized g.1.cls ∈ zT) (h5 : zc g ∈ zT) (hO : zO g n) (hR : rm.cells = 0 ∧ rm.slots = 0 ∧ rm.frames + 1 ≤ R.frames ∧ 8 + (g.2.2.1 + 11) + rm.locals ≤ R.locals) (hn : As.length = n) (hst : st0 = As.reverse ++ rest) (hW : (rest.map fun v => v.category).sum ≤ 8) (hd : decode cc pc = .ok (.invokestatic ix, 3)) (hf : kc ≤ R.cells ∧ ks ≤ R.slots) {ws' : va_W} (hws : ws.set q0 (a, .inl (cI, n0, .inl (fun j => zI (σ2 0 j)))) = ws') (kk : VR p l e R s m args below meth c nL D cl A kc ks Q (pc + 3) lv rest ws') : VR p l e R s m args below meth c nL D cl A kc ks Q pc lv st0 ws := by
  intro ls H locs hl hP hD hS
  subst hws
  have hP0 : va_P D cl (zX (zw1 D a cI cL cB) (zL1 n0) σ) H := by
    intro k q hk
    have hk : [(a, (Sum.inl (cI, n0, .inl (fun j => zI (σ 0 j))) : va_E))][k]? = some q := hk
    have h0 : k < 1 := (List.getElem?_eq_some_iff.mp hk).1
    rw [show k = 0 by omega] at hk
    cases hk
    exact hP q0 _ he
  have hF : ∀ q, zA (zw1 D a cI cL cB) (zL1 n0).1 H.size q → A q := by
    rintro q (⟨k, _, e⟩ | e)
    · rw [show q = a from e]; exact hD.2 q0 _ he
    · exact C.2.2.2.2.2.2.2 q (Nat.le_trans hS.1 e)
  refine va_callv (va_runS ⟨C.1, C.2.1, C.2.2.1, C.2.2.2.1, C.2.2.2.2.1⟩ (hM H.size) (va_cwS n C.2.2.2.2.1 (zgJ h1 h2 h3 h5) rfl hR.1 hR.2.1 hO hR.2.2) ⟨zBlind, fun U hU hW' => ⟨rfl, by rw [hU], by rw [hU]; exact hP0, va_K.moved hW'.alike C.2.2.2.2.2.1, fun i j hi hj _ => (Nat.lt_one_iff.mp hi).trans (Nat.lt_one_iff.mp hj).symm, fun x hx => absurd hx List.not_mem_nil⟩⟩ rfl hn hl.1 hst (lv_room hW) hd hf) hS (fun q _ h => hF q h) hF (fun u t H1 locs1 ht hvm hp hB hz1 hk1 hS1 => ?_)
  rw [show u = σ2 from hp] at hB
  unfold zPost at hB
  rw [ht] at hB
  have hat : va_at D cl (a, .inl (cI, n0, .inl (fun j => zI (σ2 0 j)))) H1 := hB 0 _ rfl
  exact kk ls H1 locs1 hl (hP.setF hD he hat (fun q h1 h2 => hk1 q h1 (by
    rintro (⟨k, _, e⟩ | e)
    · exact h2 e
    · omega))) (hD.set he) hS1
theorem VR_ws {ws' : va_W} (h : ws = ws') (k : VR p l e R s m args below meth c nL D cl A kc ks Q pc lv st ws') : VR p l e R s m args below meth c nL D cl A kc ks Q pc lv st ws := by rw [h]; exact k
end CR
theorem c_ar_fillG (L : zY) (l : Launch) (w : zW) (σ : Nat → Nat → Int) (h n0 : Nat) (hh : h < L.1) (hd0 : L.2.1 h = (0, n0, [])) (hn0 : n0 < 2 ^ 31) (v : Int) : zMv l w L CC g_ar_fill rm_ar_fill [.ref (w.1 h), .int (zI (v))] σ (flS σ h n0 v) := by
  refine zMv.of g_ar_fill (by decide +kernel) (Nat.le_of_ble_eq_true rfl) rfl ?_
  intro p e u m args below meth c C hr
  have C : zC p u m args meth c prog_11_method_103_code 4 "java/util/Arrays" w L CC := C
  have hr : meth.sig.returnType = none := hr
  show V p l e rm_ar_fill u m args below meth c 4 w L CC 0 0 (MQ below (zQv w L CC (flS σ h n0 v) u.heap.size) args u 0 0 (zA w L.1 u.heap.size)) 0 [(0, .ref (w.1 h)), (1, .int (zI (v)))] [] σ
  refine V_iconst C d_ar_fill_0 ?_
  refine V_istore_n (lv' := [(2, _), (0, _), (1, _)]) C d_ar_fill_1 (by decide) rfl ?_
  refine V_aload_n C d_ar_fill_2 1 rfl ?_
  refine V_alen C h hh hd0 d_ar_fill_3 ?_
  refine V_istore_n (lv' := [(3, _), (2, _), (0, _), (1, _)]) C d_ar_fill_4 (by decide) rfl ?_
  refine V_sub (lv' := [(2, _), (3, _), (0, _), (1, _)]) [1, 0, 2, 3] rfl ?_
  refine V_ss (flS_0 (h := h) (v := v)).symm ?_
  refine loopUp (n := n0) (P := fun i => V p l e rm_ar_fill u m args below meth c 4 w L CC 0 0 (MQ below (zQv w L CC (flS σ h n0 v) u.heap.size) args u 0 0 (zA w L.1 u.heap.size)) 5 [(2, .int (zI ((i : Int)))), (3, .int (zI ((n0 : Int)))), (0, .ref (w.1 h)), (1, .int (zI (v)))] [] (flS σ h i v)) (fun i hii ihi => ?_) 0 (Nat.zero_le _)
  show V p l e rm_ar_fill u m args below meth c 4 w L CC 0 0 (MQ below (zQv w L CC (flS σ h n0 v) u.heap.size) args u 0 0 (zA w L.1 u.heap.size)) 5 [(2, .int (zI ((i : Int)))), (3, .int (zI ((n0 : Int)))), (0, .ref (w.1 h)), (1, .int (zI (v)))] [] (flS σ h i v)
  refine V_iload_n C d_ar_fill_5 0 rfl ?_
  refine V_iload_n C d_ar_fill_6 1 rfl ?_
  refine V_cmpge C 20 d_ar_fill_7 (by decide) ⟨by omega, by omega⟩ ⟨by omega, by omega⟩ (fun he => ?_) (fun he => ?_)
  · have hin : i = n0 := by omega
    subst hin
    exact V_vret C hr d_ar_fill_20 rfl
  · have hin : i < n0 := by omega
    refine V_aload_n C d_ar_fill_10 2 rfl ?_
    refine V_iload_n C d_ar_fill_11 0 rfl ?_
    refine V_iload_n C d_ar_fill_12 3 rfl ?_
    refine V_iast C h _ hh hd0 rfl (by omega) hn0 d_ar_fill_13 ?_
    rw [flS_step]
    refine V_iinc (lv' := [(2, _), (3, _), (0, _), (1, _)]) C d_ar_fill_14 0 rfl (by decide) rfl ?_
    refine V_goto C 5 d_ar_fill_17 (by decide) ?_
    refine V_sub (lv' := [(2, _), (3, _), (0, _), (1, _)]) [0, 1, 2, 3] rfl ?_
    exact ihi hin

set_option maxRecDepth 20000 in
set_option maxHeartbeats 4000000 in
theorem one_int {s : State} : ∀ c1 c2, va_RA s c1 .int → va_RA s c2 .int → c1 = c2 := fun _ _ h1 h2 => Option.some.inj (h1.symm.trans h2)
theorem one_long {s : State} : ∀ c1 c2, va_RA s c1 .long → va_RA s c2 .long → c1 = c2 := fun _ _ h1 h2 => Option.some.inj (h1.symm.trans h2)
theorem one_bool {s : State} : ∀ c1 c2, va_RA s c1 .boolean → va_RA s c2 .boolean → c1 = c2 := fun _ _ h1 h2 => Option.some.inj (h1.symm.trans h2)
