/-! A layer over the kit: a symbolic state (world, room, pc, locals, stack) of one invocation X; each row turns it by one instruction. -/
abbrev zX : Type := va_G × (ClassId × ClassId × ClassId) × (Nat → Prop) × Program × Launch × Env × Room × State × MethodId × Array Value × List Frame × Method × Code × (State → Prop)
abbrev zX.D (X : zX) : va_G := X.1
abbrev zX.cI (X : zX) : ClassId := X.2.1.1
abbrev zX.cZ (X : zX) : ClassId := X.2.1.2.1
abbrev zX.cJ (X : zX) : ClassId := X.2.1.2.2
abbrev zX.A (X : zX) : Nat → Prop := X.2.2.1
abbrev zX.p (X : zX) : Program := X.2.2.2.1
abbrev zX.l (X : zX) : Launch := X.2.2.2.2.1
abbrev zX.e (X : zX) : Env := X.2.2.2.2.2.1
abbrev zX.R (X : zX) : Room := X.2.2.2.2.2.2.1
abbrev zX.s (X : zX) : State := X.2.2.2.2.2.2.2.1
abbrev zX.m (X : zX) : MethodId := X.2.2.2.2.2.2.2.2.1
abbrev zX.args (X : zX) : Array Value := X.2.2.2.2.2.2.2.2.2.1
abbrev zX.below (X : zX) : List Frame := X.2.2.2.2.2.2.2.2.2.2.1
abbrev zX.meth (X : zX) : Method := X.2.2.2.2.2.2.2.2.2.2.2.1
abbrev zX.c (X : zX) : Code := X.2.2.2.2.2.2.2.2.2.2.2.2.1
abbrev zX.Q (X : zX) : State → Prop := X.2.2.2.2.2.2.2.2.2.2.2.2.2
def zty (g : ClassId × ClassId × ClassId) : List (ClassId × FieldType) := [(g.1, .int), (g.2.1, .boolean), (g.2.2, .long)]
def zW (X : zX) (nL : Nat) (ws : va_W) (n1 n2 pc : Nat) (lv : List (Nat × Value)) (st : List Value) : Prop :=
  ∀ (H : Heap) (locs : List Loc) (ls : Array Slot), va_P X.D vwCl ws H → va_D X.A ws → va_S X.A X.s.heap H locs → lv_has ls nL lv → W X.p X.l X.e X.R X.s X.m X.args X.below X.meth X.c H locs n1 n2 X.Q (F0 X.m pc ls st)
def zC (X : zX) (cc : ByteArray) (nL : Nat) (own : String) (Ts : List Cond) (Rm : Room) : Prop :=
  X.p.tables.exec = Jvm.exec ∧ X.c.code = cc ∧ X.c.maxLocals = nL ∧ X.s.vm.findClass own = some X.m.cls ∧ (∀ w ∈ Ts, w.before X.args X.s = true) ∧ va_K X.D vwCl (zty X.2.1) X.s ∧ (∀ q, X.s.heap.size ≤ q → X.A q) ∧ X.R = Rm ∧ X.meth.locks = false
section ZR
variable {X : zX} {cc : ByteArray} {nL : Nat} {own : String} {Ts : List Cond} {Rm : Room} {ws : va_W} {n1 n2 pc q : Nat} {lv lv' : List (Nat × Value)} {st : List Value}
theorem zC.x (C : zC X cc nL own Ts Rm) : X.p.tables.exec = Jvm.exec := C.1
theorem zC.b (C : zC X cc nL own Ts Rm) : X.c.code = cc := C.2.1
theorem zC.ml (C : zC X cc nL own Ts Rm) : X.c.maxLocals = nL := C.2.2.1
theorem zC.ow (C : zC X cc nL own Ts Rm) : X.s.vm.findClass own = some X.m.cls := C.2.2.2.1
theorem zC.ts (C : zC X cc nL own Ts Rm) : ∀ w ∈ Ts, w.before X.args X.s = true := C.2.2.2.2.1
theorem zC.k (C : zC X cc nL own Ts Rm) : va_K X.D vwCl (zty X.2.1) X.s := C.2.2.2.2.2.1
theorem zC.a (C : zC X cc nL own Ts Rm) : ∀ q, X.s.heap.size ≤ q → X.A q := C.2.2.2.2.2.2.1
theorem zC.r (C : zC X cc nL own Ts Rm) : X.R = Rm := C.2.2.2.2.2.2.2.1
theorem zC.lk (C : zC X cc nL own Ts Rm) : X.meth.locks = false := C.2.2.2.2.2.2.2.2
/-- the locals by places, the world by places -/
theorem z_lv (ks : List Nat) (h : lv_pick lv ks = lv') (k : zW X nL ws n1 n2 pc lv' st) : zW X nL ws n1 n2 pc lv st :=
  fun H locs ls hP hD hS hl => k H locs ls hP hD hS (lv_sub hl ks h)
theorem z_ws {ws' : va_W} (is : List Nat) (hn : va_nd is = true) (h : is.map (fun i => ws[i]?) = ws'.map some) (k : zW X nL ws' n1 n2 pc lv st) : zW X nL ws n1 n2 pc lv st :=
  fun H locs ls hP hD hS hl => k H locs ls (hP.sub is (by
    have h2 : (is.map (fun i => ws[i]?)).filterMap id = (ws'.map some).filterMap id := by rw [h]
    rw [List.filterMap_map, List.filterMap_map] at h2
    have h3 : is.filterMap (fun i => ws[i]?) = ws'.filterMap some := h2
    rw [h3]; exact List.filterMap_some)) (hD.sub is hn h) hS hl
theorem z_eqi {x y : Int32} (h : x = y) (k : zW X nL ws n1 n2 pc lv (.int y :: st)) : zW X nL ws n1 n2 pc lv (.int x :: st) := by rw [h]; exact k
theorem z_widen {m1 m2 : Nat} (h1 : n1 ≤ m1) (h2 : n2 ≤ m2) (k : zW X nL ws m1 m2 pc lv st) : zW X nL ws n1 n2 pc lv st :=
  fun H locs ls hP hD hS hl => W.widen h1 h2 (k H locs ls hP hD hS hl)

theorem z_iconst (C : zC X cc nL own Ts Rm) {n : Int} {v : Int32} (hv : Int32.ofInt n = v) (hd : decode cc pc = .ok (.iconst n, 1)) (hq : pc + 1 = q) (k : zW X nL ws n1 n2 q lv (.int v :: st)) : zW X nL ws n1 n2 pc lv (st) := by
  subst hq
  exact fun H locs ls hP hD hS hl => lv_iconst C.x C.b hd hv (k H locs ls hP hD hS hl)
theorem z_bipush (C : zC X cc nL own Ts Rm) {n : Int} {v : Int32} (hv : (Int8.ofInt n).toInt32 = v) (hd : decode cc pc = .ok (.bipush n, 2)) (hq : pc + 2 = q) (k : zW X nL ws n1 n2 q lv (.int v :: st)) : zW X nL ws n1 n2 pc lv (st) := by
  subst hq
  exact fun H locs ls hP hD hS hl => lv_bipush C.x C.b hd hv (k H locs ls hP hD hS hl)
theorem z_sipush (C : zC X cc nL own Ts Rm) {n : Int} {v : Int32} (hv : (Int16.ofInt n).toInt32 = v) (hd : decode cc pc = .ok (.sipush n, 3)) (hq : pc + 3 = q) (k : zW X nL ws n1 n2 q lv (.int v :: st)) : zW X nL ws n1 n2 pc lv (st) := by
  subst hq
  exact fun H locs ls hP hD hS hl => lv_sipush C.x C.b hd hv (k H locs ls hP hD hS hl)
theorem z_ldc (C : zC X cc nL own Ts Rm) {index : Nat} {v : Int32} (hc : Cond.constant own index v ∈ Ts) (hd : decode cc pc = .ok (.ldc index, 2)) (hq : pc + 2 = q) (k : zW X nL ws n1 n2 q lv (.int v :: st)) : zW X nL ws n1 n2 pc lv (st) := by
  subst hq
  exact fun H locs ls hP hD hS hl => lv_ldc C.x C.b C.ow (C.ts _ hc) hd (k H locs ls hP hD hS hl)
theorem z_iload_n (C : zC X cc nL own Ts Rm) (k0 : Nat) {j : Fin 4} {i : Nat} {x : Int32} (hj : (j : Nat) = i) (hl0 : lv[k0]? = some (i, .int x)) (hd : decode cc pc = .ok (.iload_n j, 1)) (hq : pc + 1 = q) (k : zW X nL ws n1 n2 q lv (.int x :: st)) : zW X nL ws n1 n2 pc lv (st) := by
  subst hq
  exact fun H locs ls hP hD hS hl => lv_iload_n C.x C.b hd hj (lv_at hl k0 hl0) (k H locs ls hP hD hS hl)
theorem z_iload (C : zC X cc nL own Ts Rm) (k0 : Nat) {i : Nat} {x : Int32} (hl0 : lv[k0]? = some (i, .int x)) (hd : decode cc pc = .ok (.iload i, 2)) (hq : pc + 2 = q) (k : zW X nL ws n1 n2 q lv (.int x :: st)) : zW X nL ws n1 n2 pc lv (st) := by
  subst hq
  exact fun H locs ls hP hD hS hl => lv_iload C.x C.b hd (lv_at hl k0 hl0) (k H locs ls hP hD hS hl)
theorem z_aload_n (C : zC X cc nL own Ts Rm) (k0 : Nat) {j : Fin 4} {i a : Nat} (hj : (j : Nat) = i) (hl0 : lv[k0]? = some (i, .ref a)) (hd : decode cc pc = .ok (.aload_n j, 1)) (hq : pc + 1 = q) (k : zW X nL ws n1 n2 q lv (.ref a :: st)) : zW X nL ws n1 n2 pc lv (st) := by
  subst hq
  exact fun H locs ls hP hD hS hl => lv_aload_n C.x C.b hd hj (lv_at hl k0 hl0) (k H locs ls hP hD hS hl)
theorem z_aload (C : zC X cc nL own Ts Rm) (k0 : Nat) {i a : Nat} (hl0 : lv[k0]? = some (i, .ref a)) (hd : decode cc pc = .ok (.aload i, 2)) (hq : pc + 2 = q) (k : zW X nL ws n1 n2 q lv (.ref a :: st)) : zW X nL ws n1 n2 pc lv (st) := by
  subst hq
  exact fun H locs ls hP hD hS hl => lv_aload C.x C.b hd (lv_at hl k0 hl0) (k H locs ls hP hD hS hl)
theorem z_iadd (C : zC X cc nL own Ts Rm) {x y : Int32} (hd : decode cc pc = .ok (.iadd, 1)) (hq : pc + 1 = q) (k : zW X nL ws n1 n2 q lv (.int (x + y) :: st)) : zW X nL ws n1 n2 pc lv (.int y :: .int x :: st) := by
  subst hq
  exact fun H locs ls hP hD hS hl => lv_iadd C.x C.b hd (k H locs ls hP hD hS hl)
theorem z_isub (C : zC X cc nL own Ts Rm) {x y : Int32} (hd : decode cc pc = .ok (.isub, 1)) (hq : pc + 1 = q) (k : zW X nL ws n1 n2 q lv (.int (x - y) :: st)) : zW X nL ws n1 n2 pc lv (.int y :: .int x :: st) := by
  subst hq
  exact fun H locs ls hP hD hS hl => lv_isub C.x C.b hd (k H locs ls hP hD hS hl)
theorem z_imul (C : zC X cc nL own Ts Rm) {x y : Int32} (hd : decode cc pc = .ok (.imul, 1)) (hq : pc + 1 = q) (k : zW X nL ws n1 n2 q lv (.int (x * y) :: st)) : zW X nL ws n1 n2 pc lv (.int y :: .int x :: st) := by
  subst hq
  exact fun H locs ls hP hD hS hl => lv_imul C.x C.b hd (k H locs ls hP hD hS hl)
theorem z_iand (C : zC X cc nL own Ts Rm) {x y : Int32} (hd : decode cc pc = .ok (.iand, 1)) (hq : pc + 1 = q) (k : zW X nL ws n1 n2 q lv (.int (x &&& y) :: st)) : zW X nL ws n1 n2 pc lv (.int y :: .int x :: st) := by
  subst hq
  exact fun H locs ls hP hD hS hl => lv_iand C.x C.b hd (k H locs ls hP hD hS hl)
theorem z_idiv (C : zC X cc nL own Ts Rm) {x y : Int32} (h0 : ¬ y = 0) (hd : decode cc pc = .ok (.idiv, 1)) (hq : pc + 1 = q) (k : zW X nL ws n1 n2 q lv (.int (x / y) :: st)) : zW X nL ws n1 n2 pc lv (.int y :: .int x :: st) := by
  subst hq
  exact fun H locs ls hP hD hS hl => lv_idiv C.x C.b hd h0 (k H locs ls hP hD hS hl)
theorem z_irem (C : zC X cc nL own Ts Rm) {x y : Int32} (h0 : ¬ y = 0) (hd : decode cc pc = .ok (.irem, 1)) (hq : pc + 1 = q) (k : zW X nL ws n1 n2 q lv (.int (x - x / y * y) :: st)) : zW X nL ws n1 n2 pc lv (.int y :: .int x :: st) := by
  subst hq
  exact fun H locs ls hP hD hS hl => lv_irem C.x C.b hd h0 (k H locs ls hP hD hS hl)
theorem z_iushr (C : zC X cc nL own Ts Rm) {x y v : Int32} (hv : (x.toUInt32 >>> (y.toUInt32 &&& Int32.toUInt32 31)).toInt32 = v) (hd : decode cc pc = .ok (.iushr, 1)) (hq : pc + 1 = q) (k : zW X nL ws n1 n2 q lv (.int v :: st)) : zW X nL ws n1 n2 pc lv (.int y :: .int x :: st) := by
  subst hq
  exact fun H locs ls hP hD hS hl => lv_iushr C.x C.b hd hv (k H locs ls hP hD hS hl)
theorem z_i2l (C : zC X cc nL own Ts Rm) {x : Int32} {v : Int64} (hv : x.toInt64 = v) (hd : decode cc pc = .ok (.i2l, 1)) (hq : pc + 1 = q) (k : zW X nL ws n1 n2 q lv (.long v :: st)) : zW X nL ws n1 n2 pc lv (.int x :: st) := by
  subst hq
  exact fun H locs ls hP hD hS hl => lv_i2l C.x C.b hd hv (k H locs ls hP hD hS hl)
theorem z_lcmp (C : zC X cc nL own Ts Rm) {x y : Int64} (hd : decode cc pc = .ok (.lcmp, 1)) (hq : pc + 1 = q) (k : zW X nL ws n1 n2 q lv (.int (lg_cmp x y) :: st)) : zW X nL ws n1 n2 pc lv (.long y :: .long x :: st) := by
  subst hq
  exact fun H locs ls hP hD hS hl => W.lcmp C.x C.b hd (k H locs ls hP hD hS hl)
theorem z_dup (C : zC X cc nL own Ts Rm) {v : Value} (hv : v.category = 1) (hd : decode cc pc = .ok (.dup, 1)) (hq : pc + 1 = q) (k : zW X nL ws n1 n2 q lv (v :: v :: st)) : zW X nL ws n1 n2 pc lv (v :: st) := by
  subst hq
  exact fun H locs ls hP hD hS hl => lv_dup C.x C.b hd hv (k H locs ls hP hD hS hl)
theorem z_pop (C : zC X cc nL own Ts Rm) {v : Value} (hv : v.category = 1) (hd : decode cc pc = .ok (.pop, 1)) (hq : pc + 1 = q) (k : zW X nL ws n1 n2 q lv (st)) : zW X nL ws n1 n2 pc lv (v :: st) := by
  subst hq
  exact fun H locs ls hP hD hS hl => lv_pop C.x C.b hd hv (k H locs ls hP hD hS hl)
theorem z_istore_n (C : zC X cc nL own Ts Rm) {j : Fin 4} {i : Nat} {x : Int32} (hj : (j : Nat) = i) (hd : decode cc pc = .ok (.istore_n j, 1)) (hq : pc + 1 = q) (hn : i < nL) (hl0 : (i, Value.int x) :: lv.filter (fun q => !(q.1 == i) && !(q.1 + 1 == i && q.2.category == 2)) = lv') (k : zW X nL ws n1 n2 q lv' st) : zW X nL ws n1 n2 pc lv (.int x :: st) := by
  subst hq
  exact fun H locs ls hP hD hS hl => lv_istore_n C.x C.b hd hj hl hn hl0 (fun ls hl => k H locs ls hP hD hS hl)
theorem z_istore (C : zC X cc nL own Ts Rm) {i : Nat} {x : Int32} (hd : decode cc pc = .ok (.istore i, 2)) (hq : pc + 2 = q) (hn : i < nL) (hl0 : (i, Value.int x) :: lv.filter (fun q => !(q.1 == i) && !(q.1 + 1 == i && q.2.category == 2)) = lv') (k : zW X nL ws n1 n2 q lv' st) : zW X nL ws n1 n2 pc lv (.int x :: st) := by
  subst hq
  exact fun H locs ls hP hD hS hl => lv_istore C.x C.b hd hl hn hl0 (fun ls hl => k H locs ls hP hD hS hl)
theorem z_astore_n (C : zC X cc nL own Ts Rm) {j : Fin 4} {i a : Nat} (hj : (j : Nat) = i) (hd : decode cc pc = .ok (.astore_n j, 1)) (hq : pc + 1 = q) (hn : i < nL) (hl0 : (i, Value.ref a) :: lv.filter (fun q => !(q.1 == i) && !(q.1 + 1 == i && q.2.category == 2)) = lv') (k : zW X nL ws n1 n2 q lv' st) : zW X nL ws n1 n2 pc lv (.ref a :: st) := by
  subst hq
  exact fun H locs ls hP hD hS hl => lv_astore_n C.x C.b hd hj hl hn hl0 (fun ls hl => k H locs ls hP hD hS hl)
theorem z_astore (C : zC X cc nL own Ts Rm) {i a : Nat} (hd : decode cc pc = .ok (.astore i, 2)) (hq : pc + 2 = q) (hn : i < nL) (hl0 : (i, Value.ref a) :: lv.filter (fun q => !(q.1 == i) && !(q.1 + 1 == i && q.2.category == 2)) = lv') (k : zW X nL ws n1 n2 q lv' st) : zW X nL ws n1 n2 pc lv (.ref a :: st) := by
  subst hq
  exact fun H locs ls hP hD hS hl => lv_astore C.x C.b hd hl hn hl0 (fun ls hl => k H locs ls hP hD hS hl)
theorem z_iinc (C : zC X cc nL own Ts Rm) (k0 : Nat) {i : Nat} {n : Int} {x v : Int32} (hd : decode cc pc = .ok (.iinc i n, 3)) (hq : pc + 3 = q) (hl1 : lv[k0]? = some (i, .int x)) (hv : x + Int32.ofInt n = v) (hn : i < nL) (hl0 : (i, Value.int v) :: lv.filter (fun q => !(q.1 == i) && !(q.1 + 1 == i && q.2.category == 2)) = lv') (k : zW X nL ws n1 n2 q lv' st) : zW X nL ws n1 n2 pc lv st := by
  subst hq
  exact fun H locs ls hP hD hS hl => lv_iinc C.x C.b hd hl hl1 hv hn hl0 (fun ls hl => k H locs ls hP hD hS hl)
theorem z_if_eq (C : zC X cc nL own Ts Rm) {x : Int32} {off : Int} {tgt : Nat} (hd : decode cc pc = .ok (.ifCond .eq off, 3)) (ht : (pc : Int) + off = (tgt : Int)) (hq : pc + 3 = q) (kt : x = 0 → zW X nL ws n1 n2 tgt lv st) (kf : ¬ x = 0 → zW X nL ws n1 n2 q lv st) : zW X nL ws n1 n2 pc lv (.int x :: st) := by
  subst hq
  exact fun H locs ls hP hD hS hl => lv_if_eq C.x C.b hd ht (fun h => kt h H locs ls hP hD hS hl) (fun h => kf h H locs ls hP hD hS hl)
theorem z_if_ne (C : zC X cc nL own Ts Rm) {x : Int32} {off : Int} {tgt : Nat} (hd : decode cc pc = .ok (.ifCond .ne off, 3)) (ht : (pc : Int) + off = (tgt : Int)) (hq : pc + 3 = q) (kt : ¬ x = 0 → zW X nL ws n1 n2 tgt lv st) (kf : x = 0 → zW X nL ws n1 n2 q lv st) : zW X nL ws n1 n2 pc lv (.int x :: st) := by
  subst hq
  exact fun H locs ls hP hD hS hl => lv_if_ne C.x C.b hd ht (fun h => kt h H locs ls hP hD hS hl) (fun h => kf h H locs ls hP hD hS hl)
theorem z_if_lt (C : zC X cc nL own Ts Rm) {x : Int32} {off : Int} {tgt : Nat} (hd : decode cc pc = .ok (.ifCond .lt off, 3)) (ht : (pc : Int) + off = (tgt : Int)) (hq : pc + 3 = q) (kt : x < 0 → zW X nL ws n1 n2 tgt lv st) (kf : ¬ x < 0 → zW X nL ws n1 n2 q lv st) : zW X nL ws n1 n2 pc lv (.int x :: st) := by
  subst hq
  exact fun H locs ls hP hD hS hl => lv_if_lt C.x C.b hd ht (fun h => kt h H locs ls hP hD hS hl) (fun h => kf h H locs ls hP hD hS hl)
theorem z_if_ge (C : zC X cc nL own Ts Rm) {x : Int32} {off : Int} {tgt : Nat} (hd : decode cc pc = .ok (.ifCond .ge off, 3)) (ht : (pc : Int) + off = (tgt : Int)) (hq : pc + 3 = q) (kt : 0 ≤ x → zW X nL ws n1 n2 tgt lv st) (kf : ¬ 0 ≤ x → zW X nL ws n1 n2 q lv st) : zW X nL ws n1 n2 pc lv (.int x :: st) := by
  subst hq
  exact fun H locs ls hP hD hS hl => lv_if_ge C.x C.b hd ht (fun h => kt h H locs ls hP hD hS hl) (fun h => kf h H locs ls hP hD hS hl)
theorem z_if_gt (C : zC X cc nL own Ts Rm) {x : Int32} {off : Int} {tgt : Nat} (hd : decode cc pc = .ok (.ifCond .gt off, 3)) (ht : (pc : Int) + off = (tgt : Int)) (hq : pc + 3 = q) (kt : 0 < x → zW X nL ws n1 n2 tgt lv st) (kf : ¬ 0 < x → zW X nL ws n1 n2 q lv st) : zW X nL ws n1 n2 pc lv (.int x :: st) := by
  subst hq
  exact fun H locs ls hP hD hS hl => lv_if_gt C.x C.b hd ht (fun h => kt h H locs ls hP hD hS hl) (fun h => kf h H locs ls hP hD hS hl)
theorem z_if_le (C : zC X cc nL own Ts Rm) {x : Int32} {off : Int} {tgt : Nat} (hd : decode cc pc = .ok (.ifCond .le off, 3)) (ht : (pc : Int) + off = (tgt : Int)) (hq : pc + 3 = q) (kt : x ≤ 0 → zW X nL ws n1 n2 tgt lv st) (kf : ¬ x ≤ 0 → zW X nL ws n1 n2 q lv st) : zW X nL ws n1 n2 pc lv (.int x :: st) := by
  subst hq
  exact fun H locs ls hP hD hS hl => lv_if_le C.x C.b hd ht (fun h => kt h H locs ls hP hD hS hl) (fun h => kf h H locs ls hP hD hS hl)
theorem z_icmp_eq (C : zC X cc nL own Ts Rm) {x y : Int32} {off : Int} {tgt : Nat} (hd : decode cc pc = .ok (.if_icmp .eq off, 3)) (ht : (pc : Int) + off = (tgt : Int)) (hq : pc + 3 = q) (kt : x = y → zW X nL ws n1 n2 tgt lv st) (kf : ¬ x = y → zW X nL ws n1 n2 q lv st) : zW X nL ws n1 n2 pc lv (.int y :: .int x :: st) := by
  subst hq
  exact fun H locs ls hP hD hS hl => lv_icmp_eq C.x C.b hd ht (fun h => kt h H locs ls hP hD hS hl) (fun h => kf h H locs ls hP hD hS hl)
theorem z_icmp_ne (C : zC X cc nL own Ts Rm) {x y : Int32} {off : Int} {tgt : Nat} (hd : decode cc pc = .ok (.if_icmp .ne off, 3)) (ht : (pc : Int) + off = (tgt : Int)) (hq : pc + 3 = q) (kt : ¬ x = y → zW X nL ws n1 n2 tgt lv st) (kf : x = y → zW X nL ws n1 n2 q lv st) : zW X nL ws n1 n2 pc lv (.int y :: .int x :: st) := by
  subst hq
  exact fun H locs ls hP hD hS hl => lv_icmp_ne C.x C.b hd ht (fun h => kt h H locs ls hP hD hS hl) (fun h => kf h H locs ls hP hD hS hl)
theorem z_icmp_lt (C : zC X cc nL own Ts Rm) {x y : Int32} {off : Int} {tgt : Nat} (hd : decode cc pc = .ok (.if_icmp .lt off, 3)) (ht : (pc : Int) + off = (tgt : Int)) (hq : pc + 3 = q) (kt : x < y → zW X nL ws n1 n2 tgt lv st) (kf : ¬ x < y → zW X nL ws n1 n2 q lv st) : zW X nL ws n1 n2 pc lv (.int y :: .int x :: st) := by
  subst hq
  exact fun H locs ls hP hD hS hl => lv_icmp_lt C.x C.b hd ht (fun h => kt h H locs ls hP hD hS hl) (fun h => kf h H locs ls hP hD hS hl)
theorem z_icmp_ge (C : zC X cc nL own Ts Rm) {x y : Int32} {off : Int} {tgt : Nat} (hd : decode cc pc = .ok (.if_icmp .ge off, 3)) (ht : (pc : Int) + off = (tgt : Int)) (hq : pc + 3 = q) (kt : y ≤ x → zW X nL ws n1 n2 tgt lv st) (kf : ¬ y ≤ x → zW X nL ws n1 n2 q lv st) : zW X nL ws n1 n2 pc lv (.int y :: .int x :: st) := by
  subst hq
  exact fun H locs ls hP hD hS hl => lv_icmp_ge C.x C.b hd ht (fun h => kt h H locs ls hP hD hS hl) (fun h => kf h H locs ls hP hD hS hl)
theorem z_icmp_gt (C : zC X cc nL own Ts Rm) {x y : Int32} {off : Int} {tgt : Nat} (hd : decode cc pc = .ok (.if_icmp .gt off, 3)) (ht : (pc : Int) + off = (tgt : Int)) (hq : pc + 3 = q) (kt : y < x → zW X nL ws n1 n2 tgt lv st) (kf : ¬ y < x → zW X nL ws n1 n2 q lv st) : zW X nL ws n1 n2 pc lv (.int y :: .int x :: st) := by
  subst hq
  exact fun H locs ls hP hD hS hl => lv_icmp_gt C.x C.b hd ht (fun h => kt h H locs ls hP hD hS hl) (fun h => kf h H locs ls hP hD hS hl)
theorem z_icmp_le (C : zC X cc nL own Ts Rm) {x y : Int32} {off : Int} {tgt : Nat} (hd : decode cc pc = .ok (.if_icmp .le off, 3)) (ht : (pc : Int) + off = (tgt : Int)) (hq : pc + 3 = q) (kt : x ≤ y → zW X nL ws n1 n2 tgt lv st) (kf : ¬ x ≤ y → zW X nL ws n1 n2 q lv st) : zW X nL ws n1 n2 pc lv (.int y :: .int x :: st) := by
  subst hq
  exact fun H locs ls hP hD hS hl => lv_icmp_le C.x C.b hd ht (fun h => kt h H locs ls hP hD hS hl) (fun h => kf h H locs ls hP hD hS hl)
theorem z_goto (C : zC X cc nL own Ts Rm) {off : Int} {tgt : Nat} (hd : decode cc pc = .ok (.goto off, 3)) (ht : (pc : Int) + off = (tgt : Int)) (k : zW X nL ws n1 n2 tgt lv st) : zW X nL ws n1 n2 pc lv st :=
  fun H locs ls hP hD hS hl => lv_goto C.x C.b hd ht (k H locs ls hP hD hS hl)
theorem z_tableIn (C : zC X cc nL own Ts Rm) {dflt lo hi : Int} {offs : Array Int} {len : Nat} {x : Int32} {off : Int} {tgt : Nat} (hd : decode cc pc = .ok (.tableswitch dflt lo hi offs, len)) (h1 : ¬ x.toInt < lo) (h2 : ¬ hi < x.toInt) (ho : offs[(x.toInt - lo).toNat]? = some off) (ht : (pc : Int) + off = (tgt : Int)) (k : zW X nL ws n1 n2 tgt lv st) : zW X nL ws n1 n2 pc lv (.int x :: st) :=
  fun H locs ls hP hD hS hl => lv_tableIn C.x C.b hd h1 h2 ho ht (k H locs ls hP hD hS hl)
theorem z_tableOut (C : zC X cc nL own Ts Rm) {dflt lo hi : Int} {offs : Array Int} {len : Nat} {x : Int32} {tgt : Nat} (hd : decode cc pc = .ok (.tableswitch dflt lo hi offs, len)) (h : x.toInt < lo ∨ hi < x.toInt) (ht : (pc : Int) + dflt = (tgt : Int)) (k : zW X nL ws n1 n2 tgt lv st) : zW X nL ws n1 n2 pc lv (.int x :: st) :=
  fun H locs ls hP hD hS hl => lv_tableOut C.x C.b hd h ht (k H locs ls hP hD hS hl)
theorem z_lookup (C : zC X cc nL own Ts Rm) {dflt : Int} {ps : Array (Int × Int)} {len : Nat} {x : Int32} {off : Int} {tgt : Nat} (hd : decode cc pc = .ok (.lookupswitch dflt ps, len)) (hp : (ps.toList.zip (ps.toList.drop 1)).all (fun (a, next) => a.1 < next.1) = true) (ho : Op.lookupswitch.offset ps.toList dflt x.toInt = off) (ht : (pc : Int) + off = (tgt : Int)) (k : zW X nL ws n1 n2 tgt lv st) : zW X nL ws n1 n2 pc lv (.int x :: st) :=
  fun H locs ls hP hD hS hl => lv_lookup C.x C.b hd hp ho ht (k H locs ls hP hD hS hl)
/-- fields -/
theorem z_get (C : zC X cc nL own Ts Rm) {C0 : String} {T : u_T} {N ci index : Nat} (hin : ∀ w ∈ u_ws C0 T N, w ∈ Ts) (q0 : Nat) (k0 : Nat) {a : Nat} {fs : List Value} {v : Value} (he : ws[q0]? = some (a, .inr (ci, fs))) (hc : vwCl[ci]? = some (C0, T, N)) (hk : k0 < N) (hf : Cond.fieldLink own index (T k0).1 (T k0).2.1 (T k0).2.2.1 ∈ Ts) (hv : fs[k0]? = some v) (hd : decode cc pc = .ok (.getfield index, 3)) (hq : pc + 3 = q) (k : zW X nL ws n1 n2 q lv (v :: st)) : zW X nL ws n1 n2 pc lv (.ref a :: st) := by
  subst hq
  exact fun H locs ls hP hD hS hl => va_get C.x C.b C.ts hin C.ow C.k hP q0 he hc k0 hk (C.ts _ hf) (fun _ h => h) hv hd (k H locs ls hP hD hS hl)
theorem z_put (C : zC X cc nL own Ts Rm) {C0 : String} {T : u_T} {N ci index : Nat} (hin : ∀ w ∈ u_ws C0 T N, w ∈ Ts) {ty0 : Nat → FieldType} (hty : ∀ k, k < N → parseFieldDescriptor (T k).2.2.1 = some (ty0 k)) (hnm : ∀ a, a < N → ∀ b, b < N → a ≠ b → (T a).2.1 ≠ (T b).2.1) (q0 : Nat) (k0 : Nat) {a : Nat} {fs : List Value} {v : Value} {ws' : va_W} (he : ws[q0]? = some (a, .inr (ci, fs))) (hc : vwCl[ci]? = some (C0, T, N)) (hk : k0 < N) (hf : Cond.fieldLink own index (T k0).1 (T k0).2.1 (T k0).2.2.1 ∈ Ts) (hfin : (T k0).2.2.2 = false) (hn : narrow (ty0 k0) v = v) (hfit : fits (ty0 k0) v = true) (hl : k0 < fs.length) (hd : decode cc pc = .ok (.putfield index, 3)) (hq : pc + 3 = q) (hw : ws.set q0 (a, .inr (ci, fs.set k0 v)) = ws') (k : zW X nL ws' n1 n2 q lv st) : zW X nL ws n1 n2 pc lv (v :: .ref a :: st) := by
  subst hq
  subst hw
  exact fun H locs ls hP hD hS hl1 => va_put C.x C.b C.ts hin ty0 hty hnm C.ow C.k hP hD hS q0 he hc k0 hk (C.ts _ hf) (fun _ h => h) hfin (hty k0 hk) hn hfit hl hd (fun H1 locs1 hP hD hS => k H1 locs1 ls hP hD hS hl1)
theorem z_putF (C : zC X cc nL own Ts Rm) (hini : X.meth.name = "<init>") {T : u_T} {N ci index : Nat} (hin : ∀ w ∈ u_ws own T N, w ∈ Ts) {ty0 : Nat → FieldType} (hty : ∀ k, k < N → parseFieldDescriptor (T k).2.2.1 = some (ty0 k)) (hnm : ∀ a, a < N → ∀ b, b < N → a ≠ b → (T a).2.1 ≠ (T b).2.1) (q0 : Nat) (k0 : Nat) {a : Nat} {fs : List Value} {v : Value} {ws' : va_W} (he : ws[q0]? = some (a, .inr (ci, fs))) (hc : vwCl[ci]? = some (own, T, N)) (hk : k0 < N) (hf : Cond.fieldLink own index (T k0).1 (T k0).2.1 (T k0).2.2.1 ∈ Ts) (hfin : (T k0).2.2.2 = true) (hdecl : (T k0).1 = own) (hn : narrow (ty0 k0) v = v) (hfit : fits (ty0 k0) v = true) (hl : k0 < fs.length) (hd : decode cc pc = .ok (.putfield index, 3)) (hq : pc + 3 = q) (hw : ws.set q0 (a, .inr (ci, fs.set k0 v)) = ws') (k : zW X nL ws' n1 n2 q lv st) : zW X nL ws n1 n2 pc lv (v :: .ref a :: st) := by
  subst hq
  subst hw
  exact fun H locs ls hP hD hS hl1 => va_putF C.x C.b C.ts hin ty0 hty hnm C.ow C.k hP hD hS q0 he hc k0 hk (C.ts _ hf) (fun _ h => h) hfin hini hdecl (hty k0 hk) hn hfit hl hd (fun H1 locs1 hP hD hS => k H1 locs1 ls hP hD hS hl1)
/-- arrays, the place by its number -/
theorem z_iald (C : zC X cc nL own Ts Rm) (q0 : Nat) {a n : Nat} {f : Nat → Int32} (ha : ws[q0]? = some (a, .inl (X.cI, n, .inl f))) {i : Nat} (hi : i < n) (hn : n < 2 ^ 31) (hd : decode cc pc = .ok (.iaload, 1)) (hq : pc + 1 = q) (k : zW X nL ws n1 n2 q lv (.int (f i) :: st)) : zW X nL ws n1 n2 pc lv (.int (nI i) :: .ref a :: st) := by
  subst hq
  refine fun H locs ls hP hD hS hl => va_iald C.x C.b C.k hP q0 0 ha rfl (vp_in_nI hi hn) hd ?_
  rw [nI_clamp (Nat.lt_trans hi hn)]
  exact k H locs ls hP hD hS hl
theorem z_zald (C : zC X cc nL own Ts Rm) (q0 : Nat) {a n : Nat} {f : Nat → Int32} (ha : ws[q0]? = some (a, .inl (X.cZ, n, .inl f))) {i : Nat} (hi : i < n) (hn : n < 2 ^ 31) (hd : decode cc pc = .ok (.baload, 1)) (hq : pc + 1 = q) (k : zW X nL ws n1 n2 q lv (.int (f i) :: st)) : zW X nL ws n1 n2 pc lv (.int (nI i) :: .ref a :: st) := by
  subst hq
  refine fun H locs ls hP hD hS hl => va_zald C.x C.b C.k hP q0 1 ha rfl (vp_in_nI hi hn) hd ?_
  rw [nI_clamp (Nat.lt_trans hi hn)]
  exact k H locs ls hP hD hS hl
theorem z_lald (C : zC X cc nL own Ts Rm) (q0 : Nat) {a n : Nat} {f : Nat → Int64} (ha : ws[q0]? = some (a, .inl (X.cJ, n, .inr (.inl f)))) {i : Nat} (hi : i < n) (hn : n < 2 ^ 31) (hd : decode cc pc = .ok (.laload, 1)) (hq : pc + 1 = q) (k : zW X nL ws n1 n2 q lv (.long (f i) :: st)) : zW X nL ws n1 n2 pc lv (.int (nI i) :: .ref a :: st) := by
  subst hq
  refine fun H locs ls hP hD hS hl => va_lald C.x C.b C.k hP q0 2 ha rfl (vp_in_nI hi hn) hd ?_
  rw [nI_clamp (Nat.lt_trans hi hn)]
  exact k H locs ls hP hD hS hl
theorem z_iast (C : zC X cc nL own Ts Rm) (q0 : Nat) {a n : Nat} {f : Nat → Int32} (ha : ws[q0]? = some (a, .inl (X.cI, n, .inl f))) {i : Nat} {x : Int32} {ws' : va_W} (hi : i < n) (hn : n < 2 ^ 31) (hd : decode cc pc = .ok (.iastore, 1)) (hq : pc + 1 = q) (hw : ws.set q0 (a, .inl (X.cI, n, .inl (upd f i x))) = ws') (k : zW X nL ws' n1 n2 q lv st) : zW X nL ws n1 n2 pc lv (.int x :: .int (nI i) :: .ref a :: st) := by
  subst hq
  subst hw
  refine fun H locs ls hP hD hS hl => va_iast C.x C.b C.k hP hD hS q0 0 ha rfl (vp_in_nI hi hn) hd ?_
  rw [nI_clamp (Nat.lt_trans hi hn)]
  exact fun H1 locs1 hP hD hS => k H1 locs1 ls hP hD hS hl
theorem z_zast (C : zC X cc nL own Ts Rm) (q0 : Nat) {a n : Nat} {f : Nat → Int32} (ha : ws[q0]? = some (a, .inl (X.cZ, n, .inl f))) {i : Nat} {x : Int32} {ws' : va_W} (hx : vp_nar .boolean x = x) (hi : i < n) (hn : n < 2 ^ 31) (hd : decode cc pc = .ok (.bastore, 1)) (hq : pc + 1 = q) (hw : ws.set q0 (a, .inl (X.cZ, n, .inl (upd f i x))) = ws') (k : zW X nL ws' n1 n2 q lv st) : zW X nL ws n1 n2 pc lv (.int x :: .int (nI i) :: .ref a :: st) := by
  subst hq
  subst hw
  refine fun H locs ls hP hD hS hl => va_zast C.x C.b C.k hP hD hS q0 1 ha rfl (vp_in_nI hi hn) hd ?_
  rw [nI_clamp (Nat.lt_trans hi hn), hx]
  exact fun H1 locs1 hP hD hS => k H1 locs1 ls hP hD hS hl
theorem z_last (C : zC X cc nL own Ts Rm) (q0 : Nat) {a n : Nat} {f : Nat → Int64} (ha : ws[q0]? = some (a, .inl (X.cJ, n, .inr (.inl f)))) {i : Nat} {x : Int64} {ws' : va_W} (hi : i < n) (hn : n < 2 ^ 31) (hd : decode cc pc = .ok (.lastore, 1)) (hq : pc + 1 = q) (hw : ws.set q0 (a, .inl (X.cJ, n, .inr (.inl (vp_updL f i x)))) = ws') (k : zW X nL ws' n1 n2 q lv st) : zW X nL ws n1 n2 pc lv (.long x :: .int (nI i) :: .ref a :: st) := by
  subst hq
  subst hw
  refine fun H locs ls hP hD hS hl => va_last C.x C.b C.k hP hD hS q0 2 ha rfl (vp_in_nI hi hn) hd ?_
  rw [nI_clamp (Nat.lt_trans hi hn)]
  exact fun H1 locs1 hP hD hS => k H1 locs1 ls hP hD hS hl
theorem z_alen (C : zC X cc nL own Ts Rm) (q0 : Nat) {a n : Nat} {f : Nat → Int32} (ha : ws[q0]? = some (a, .inl (X.cI, n, .inl f))) (hd : decode cc pc = .ok (.arraylength, 1)) (hq : pc + 1 = q) (k : zW X nL ws n1 n2 q lv (.int (nI n) :: st)) : zW X nL ws n1 n2 pc lv (.ref a :: st) := by
  subst hq
  exact fun H locs ls hP hD hS hl => va_alen C.x C.b C.k hP q0 0 ha rfl rfl hd (k H locs ls hP hD hS hl)
end ZR
