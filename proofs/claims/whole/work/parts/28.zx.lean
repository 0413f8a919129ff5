/-! methods that return or throw -/
def zXC (D : va_G) (A : Nat → Prop) (postX : String → va_W → Prop) : String → State → State → Prop := fun E st t => ∃ w1 : va_W, postX E w1 ∧ va_P D vwCl w1 t.heap ∧ va_D A w1 ∧ va_F A st t
def zMX (t : Nat × Nat) (l : Launch) (y : MethodName) (Ts : List Cond) (Rm : Room) (D : va_G) (g : ClassId × ClassId × ClassId) (av : List Value) (w : va_W) (mc ms : Nat) (post : Option Value → va_W → Prop) (postX : String → va_W → Prop) : Prop :=
  ∀ sz : Nat, vx_Met l y Ts Rm (va_Pc av (zPreZ t D g sz w)) (zPost D (va_A w sz) post) (zXC D (va_A w sz) postX) mc ms (va_A w sz)
def zEX (X : zX) (ret : Option FieldType) (mc ms : Nat) (post : Option Value → va_W → Prop) (postX : String → va_W → Prop) : Prop := X.meth.sig.returnType = ret ∧ X.Q = vx_MQ X.below (zPost X.D X.A post) (zXC X.D X.A postX) X.args X.s mc ms X.A
theorem z_metX {t : Nat × Nat} {l : Launch} {y : MethodName} {Ts Ts' : List Cond} {Rm : Room} {D : va_G} {g : ClassId × ClassId × ClassId} {av : List Value} {w : va_W} {mc ms : Nat} {post : Option Value → va_W → Prop} {postX : String → va_W → Prop} {cc : ByteArray} {maxL : Nat} {ret : Option FieldType} {lv : List (Nat × Value)}
    (hy : plainName y.cls = true) (hw : Ts = .code y cc maxL ret :: Ts') (hlen : (lg_sl av).length ≤ maxL) (hlv : lv_args 0 av = lv)
    (body : ∀ X : zX, X.D = D → X.2.1 = g → X.l = l → X.meth.name = y.name → zC X cc maxL y.cls Ts Rm → zEX X ret mc ms post postX → zZ t X.A X.s → (∀ x ∈ X.c.exceptionTable.toList, False) → zW X maxL w 0 0 0 lv []) : zMX t l y Ts Rm D g av w mc ms post postX := by
  intro sz
  refine vx_ofW (cc := cc) (maxL := maxL) (ret := ret) hy hw ?_
  intro p e s m args below meth c s₁ B hml htb hv
  obtain ⟨rfl, ⟨hsz, hP, hK, hD0⟩, hZ⟩ := hv
  have hts := atoms_spec (ws := Ts) B.pre
  have hown : s.vm.findClass y.cls = some m.cls := findClass_of_methodNamed B.named
  have hname : meth.name = y.name := (name_of_methodNamed B.named B.method).1
  subst hsz
  have hD := hD0.self (sz := s.heap.size)
  have hl := lv_entry av (n := maxL) hlen
  have key := body (D, g, va_A w s.heap.size, p, l, e, (headSpec Ts Rm).room, s, m, av.toArray, below, meth, c, vx_MQ below (zPost D (va_A w s.heap.size) post) (zXC D (va_A w s.heap.size) postX) av.toArray s mc ms (va_A w s.heap.size)) rfl rfl rfl hname
    ⟨B.exec, B.bytes, hml, hown, hts, hK, fun q h => Or.inr h, rfl, B.notSynchronized⟩ ⟨B.returns, rfl⟩ hZ htb s.heap [] _ hP hD va_S.rf (by rw [← hlv]; exact hl)
  rw [lg_entry_eq]
  exact key
section ZT
variable {X : zX} {cc : ByteArray} {nL : Nat} {own : String} {Ts : List Cond} {Rm : Room} {ws : va_W} {n1 n2 pc q mc ms : Nat} {lv lv' : List (Nat × Value)} {st : List Value} {post : Option Value → va_W → Prop} {postX : String → va_W → Prop} {t : Nat × Nat}
theorem z_iretX (C : zC X cc nL own Ts Rm) (E : zEX X (some .int) mc ms post postX) (h1 : n1 ≤ mc) (h2 : n2 ≤ ms) {v : Int32} (hd : decode cc pc = .ok (.ireturn, 1)) (hp : post (some (.int v)) ws) : zW X nL ws n1 n2 pc lv [.int v] := by
  intro H locs ls hP hD hS hl
  rw [show X.Q = _ from E.2]
  exact vx_ret (W.widen h1 h2 (W.iret C.x C.b E.1 (fun t ht hW => ⟨_, ws, rfl, hp, by rw [ht]; exact hP, hD, hS.F ht⟩) hS.2.2 hd C.lk))
theorem z_vretX (C : zC X cc nL own Ts Rm) (E : zEX X none mc ms post postX) (h1 : n1 ≤ mc) (h2 : n2 ≤ ms) (hd : decode cc pc = .ok (.return_, 1)) (hp : post none ws) : zW X nL ws n1 n2 pc lv [] := by
  intro H locs ls hP hD hS hl
  rw [show X.Q = _ from E.2]
  exact vx_ret (W.widen h1 h2 (W.vret C.x C.b E.1 (fun t ht hW => ⟨_, ws, rfl, hp, by rw [ht]; exact hP, hD, hS.F ht⟩) hS.2.2 hd C.lk))
theorem zB_on : ∀ w ∈ zB, w.onTables = true := by decide +kernel
theorem xNs_fit : ∀ n ∈ xNs, Bundle.fit n = true := by decide +kernel
theorem z_throw (C : zC X cc nL RX5 Ts Rm) {ret : Option FieldType} (E : zEX X ret mc ms post postX) (hZ : zZ t X.A X.s) (hT : ∀ x ∈ X.c.exceptionTable.toList, False) (hl : X.l.stackTraces = false) {cls text : String} {ik is ic : Nat} (hcls : Bundle.fit cls = true) (hk : Cond.classLink RX5 ik cls ∈ Ts) (hini : Cond.initialized cls ∈ Ts) (hs : (is, text) ∈ zStr)
    (hat : ∀ w ∈ (vx_atS RX5 ic cls xNs).filter goodWord, w ∈ Ts) (hB : ∀ w ∈ (vx_atS RX5 ic cls xNs).filter (fun w => !goodWord w), w ∈ zB) (hgood : ∀ w ∈ Cond.classLink RX5 ik cls :: Cond.initialized cls :: vx_atS RX5 ic cls xNs, vx_ot w = true)
    (d0 : decode cc pc = .ok (.new ik, 3)) (d3 : decode cc (pc + 3) = .ok (.dup, 1)) (d4 : decode cc (pc + 4) = .ok (.ldc is, 2)) (d6 : decode cc (pc + 6) = .ok (.invokespecial ic, 3)) (d9 : decode cc (pc + 9) = .ok (.athrow, 1))
    (hfr : 5 < Rm.frames) (hlo : (st.map fun v => v.category).sum + 82 ≤ Rm.locals) (hcells : n1 + 1 ≤ Rm.cells) (hslots : n2 + 6 ≤ Rm.slots) (h1 : n1 + 1 ≤ mc) (h2 : n2 + 6 ≤ ms) (hp : postX cls ws) : zW X nL ws n1 n2 pc lv st := by
  intro H locs ls hP hD hS hl1
  rw [show X.Q = _ from E.2]
  obtain ⟨-, -, -, -, hU, hN, hst, -, -, hzb, -⟩ := hZ
  obtain ⟨sa, hsa⟩ := hst _ hs
  exact vx_throwS C.x C.b hl C.ow hcls xNs_fit (C.ts _ hk) (C.ts _ hini) hsa (vx_hat (fun w hw => C.ts _ (hat w hw)) hB (fun w hw => va_Nw.use (zB_on w hw) (hzb w hw))) hgood hU hN hS (by rw [C.ml]; exact hl1.1) d0 d3 d4 d6 d9 (fun x hx => (hT x hx).elim) (by rw [C.r]; exact hfr) (by rw [C.r]; exact hlo) (by rw [C.r]; exact hcells) (by rw [C.r]; exact hslots) C.lk
    (fun t' _ hz hq => ⟨ws, hp, hP.kept (fun k x hx => hq x.1 (hP k x hx).lt), hD, Nat.le_trans hS.1 hz, fun q a b => by rw [hq q (Nat.lt_of_lt_of_le a hS.1)]; exact hS.2.1 q a b⟩) hS.2.2 h1 h2
end ZT
