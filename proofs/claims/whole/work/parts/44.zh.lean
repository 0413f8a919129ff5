/-! methods that catch; calls that may throw; the script -/
theorem z_metH {t : Nat × Nat} {l : Launch} {y : MethodName} {Ts Ts' : List Cond} {Rm : Room} {D : va_G} {g : ClassId × ClassId × ClassId} {av : List Value} {w : va_W} {mc ms : Nat} {post : Option Value → va_W → Prop} {cc : ByteArray} {maxL : Nat} {ret : Option FieldType} {lv : List (Nat × Value)} {hh : List (Nat × Nat × Nat × Nat)}
    (hy : plainName y.cls = true) (hw : Ts = .codeWith y cc maxL ret hh :: Ts') (hlen : (lg_sl av).length ≤ maxL) (hlv : lv_args 0 av = lv)
    (body : ∀ X : zX, X.D = D → X.2.1 = g → X.l = l → zC X cc maxL y.cls Ts Rm → zE X ret mc ms post → zZ t X.A X.s → X.c.exceptionTable.toList = tableOf hh → zW X maxL w 0 0 0 lv []) : zMZ t l y Ts Rm D g av w mc ms post := by
  intro sz
  refine va_MetW (cc := cc) (maxL := maxL) (ret := ret) (hh := hh) hy hw ?_
  intro p e s m args below meth c s₁ B hml hv
  obtain ⟨rfl, ⟨hsz, hP, hK, hD0⟩, hZ⟩ := hv
  have hts := atoms_spec (ws := Ts) B.pre
  have hown : s.vm.findClass y.cls = some m.cls := findClass_of_methodNamed B.named
  have htb : c.exceptionTable.toList = tableOf hh := vx_table (x := y) B (hts _ (by rw [hw]; exact List.mem_cons_self))
  subst hsz
  have hD := hD0.self (sz := s.heap.size)
  have hl := lv_entry av (n := maxL) hlen
  have key := body (D, g, va_A w s.heap.size, p, l, e, (headSpec Ts Rm).room, s, m, av.toArray, below, meth, c, MQ below (zPost D (va_A w s.heap.size) post) av.toArray s mc ms (va_A w s.heap.size)) rfl rfl rfl
    ⟨B.exec, B.bytes, hml, hown, hts, hK, fun q h => Or.inr h, rfl, B.notSynchronized⟩ ⟨B.returns, rfl⟩ hZ htb s.heap [] _ hP hD va_S.rf (by rw [← hlv]; exact hl)
  rw [lg_entry_eq]
  exact key
/-- something of class E was thrown here, and lies outside the world -/
def zT (X : zX) (nL : Nat) (ws : va_W) (n1 n2 pc : Nat) (lv : List (Nat × Value)) (rest : List Value) (E : String) : Prop :=
  ∀ (H : Heap) (locs : List Loc) (ls : Array Slot) (q : Addr) (ce : Cell), va_P X.D vwCl ws H → va_D X.A ws → va_S X.A X.s.heap H locs → lv_has ls nL lv → H[q]? = some ce → ce.vm = .none → X.s.vm.findClass E = some ce.cls → vx_W X.p X.l X.e X.R X.s X.m X.args X.below X.meth X.c H locs n1 n2 X.Q (F0 X.m pc ls rest) q
section ZH
variable {X : zX} {cc : ByteArray} {nL : Nat} {own : String} {Ts : List Cond} {Rm : Room} {ws : va_W} {n1 n2 pc q mc ms : Nat} {lv lv' : List (Nat × Value)} {st : List Value} {post : Option Value → va_W → Prop} {postX : String → va_W → Prop} {t : Nat × Nat}
theorem z_catch (C : zC X cc nL own Ts Rm) {hh : List (Nat × Nat × Nat × Nat)} {rest : List Value} {E name : String} (hT : X.c.exceptionTable.toList = tableOf hh) (pre : List ExceptionTableEntry) (x : ExceptionTableEntry) (suf : List ExceptionTableEntry) (hsplit : tableOf hh = pre ++ x :: suf)
    (hpass : ∀ z ∈ pre, covers z pc = false ∨ (z.catchType ≠ 0 ∧ ∃ nm : String, Cond.classLink own z.catchType nm ∈ Ts ∧ va_Nc E nm X.s)) (hx : covers x pc = true) (h0 : x.catchType ≠ 0) (hlink : Cond.classLink own x.catchType name ∈ Ts) (hcast : va_Nw (.castable E name) X.s) (hon : (Cond.castable E name).onTables = true) (hq : x.handlerPc = q)
    (k : ∀ a : Nat, zW X nL ws n1 n2 q lv [.ref a]) : zT X nL ws n1 n2 pc lv rest E := by
  subst hq
  intro H locs ls a ce hP hD hS hl hc hv hcl
  exact vx_catch C.ow pre x suf (hT.trans hsplit) (fun z hz => (hpass z hz).imp id (fun ⟨h1, nm, h2, h3⟩ => ⟨h1, nm, C.ts _ h2, h3⟩)) hx h0 (C.ts _ hlink) (va_Nw.use hon hcast) hc hv hcl (k a H locs ls hP hD hS hl)
theorem z_backX {wc wr : va_W} {rest st0 : List Value} {a : Array Value} (hr : ∀ (H : Heap) (locs : List Loc) (ls : Array Slot), va_P X.D vwCl ws H → va_D X.A ws → va_S X.A X.s.heap H locs → (∀ q, va_A wc H.size q → X.A q) → lv_has ls nL lv → vx_Run X.p X.l X.e X.R X.s X.m X.args X.below X.meth X.c H locs n1 n2 mc ms (F0 X.m pc ls st0) rest (zPost X.D (va_A wc H.size) post a) (zXC X.D (va_A wc H.size) postX) (va_A wc H.size))
    (hA : ∀ q, X.s.heap.size ≤ q → X.A q) (isC isR : List Nat) (hC : isC.map (fun i => ws[i]?) = wc.map some) (hR : isR.map (fun i => ws[i]?) = wr.map some) (hn : va_nd isR = true) (hdis : ∀ i ∈ isR, i ∉ isC) (hq : pc + 3 = q)
    (k : ∀ (v : Option Value) (w1 : va_W), post v w1 → zW X nL (wr ++ w1) (n1 + mc) (n2 + ms) q lv (v.toList ++ rest))
    (kx : ∀ (E : String) (w1 : va_W), postX E w1 → zT X nL (wr ++ w1) (n1 + mc) (n2 + ms) pc lv rest E) : zW X nL ws n1 n2 pc lv st0 := by
  subst hq
  intro H locs ls hP hD hS hl T hT St
  have hFc := va_free (wc := wc) hD hS hA isC hC
  have go1 : ∀ (st₀ t T' : State) (L : List Loc) (w1 : va_W), st₀.heap = H → T'.heap = t.heap → (∀ z ∈ L, va_A wc H.size z.base) → va_P X.D vwCl w1 t.heap → va_D (va_A wc H.size) w1 → va_F (va_A wc H.size) st₀ t → va_P X.D vwCl (wr ++ w1) T'.heap ∧ va_D X.A (wr ++ w1) ∧ va_S X.A X.s.heap T'.heap (locs ++ L) := by
    intro st₀ t T' L w1 h0 e1 hL hP1 hD1 hF
    obtain ⟨hz, hk⟩ := hF
    rw [h0] at hz hk
    rw [← e1] at hP1 hz hk
    obtain ⟨hP2, hD2⟩ := va_join (wr := wr) (w1 := w1) hP hD isC isR hC hR hn hdis hk hFc hP1 hD1
    exact ⟨hP2, hD2, Nat.le_trans hS.1 hz, fun q h1 h2 => by rw [hk q (Nat.lt_of_lt_of_le h1 hS.1) (fun z => h2 (hFc q z))]; exact hS.2.1 q h1 h2, fun q hq => by
      rcases List.mem_append.mp hq with h | h
      · exact hS.2.2 q h
      · exact hFc _ (hL q h)⟩
  rcases hr H locs ls hP hD hS hFc hl T hT St with ⟨v, st₀, t, T', L, h0, X', hL, e1, e2, ⟨v', w1, hv, hp, hP1, hD1, hF⟩, go⟩ | ⟨q, st₀, t, T', L, E, ce, h0, X', hL, e1, e2, ⟨w1, hp, hP1, hD1, hF⟩, hce, hcv, hcl, go⟩
  · cases hv
    obtain ⟨hP2, hD2, hS2⟩ := go1 st₀ t T' L w1 h0 e1 hL hP1 hD1 hF
    obtain ⟨t2, a1, b1⟩ := k v w1 hp T'.heap (locs ++ L) ls hP2 hD2 hS2 hl T' rfl X'
    exact ⟨t2, go t2 a1, b1⟩
  · obtain ⟨hP2, hD2, hS2⟩ := go1 st₀ t T' L w1 h0 e1 hL hP1 hD1 hF
    obtain ⟨t2, a1, b1⟩ := kx E w1 hp T'.heap (locs ++ L) ls q ce hP2 hD2 hS2 hl (by rw [e1]; exact hce) hcv hcl T' rfl X'
    exact ⟨t2, go.trans a1, b1⟩
theorem z_callVX (C : zC X cc nL own Ts Rm) (hZ : zZ t X.A X.s) {y : MethodName} {bytes : ByteArray} {maxL n index : Nat} {ret : Option FieldType} {wsC wsC' : List Cond} {rmC : Room} {C0 : String} {b : Nat} {As rest : List Value} {wc wr : va_W} (hM : zMX t X.l y wsC rmC X.D X.2.1 (.ref b :: As) wc mc ms post postX) (hG : GoodIn Ts (wsV own index C0 y wsC)) (hws : wsC = .code y bytes maxL ret :: wsC') (hrc : rmC.cells = mc) (hrs : rmC.slots = ms)
    (hcl : y.cls = C0 ∧ y.cls ≠ "java/lang/invoke/MethodHandle" ∧ y.cls ≠ "java/lang/invoke/VarHandle" ∧ (parseMethodDescriptor y.desc).map (fun d => d.parameters.length) = some n) (hroom : rmC.frames + 1 ≤ Rm.frames ∧ 8 + (maxL + 11) + rmC.locals ≤ Rm.locals) (hcells : n1 + mc ≤ Rm.cells ∧ n2 + ms ≤ Rm.slots)
    (q0 ci : Nat) {fs : List Value} {T : u_T} {N : Nat} (hb : wc[q0]? = some (b, .inr (ci, fs))) (hci : vwCl[ci]? = some (C0, T, N)) (isC isR : List Nat) (hC : isC.map (fun i => ws[i]?) = wc.map some) (hR : isR.map (fun i => ws[i]?) = wr.map some) (hnC : va_nd isC = true) (hn : va_nd isR = true) (hdis : ∀ i ∈ isR, i ∉ isC)
    (hAs : As.length = n) (hst : st = As.reverse ++ .ref b :: rest) (hcat : (rest.map fun v => v.category).sum ≤ 8) (hd : decode cc pc = .ok (.invokevirtual index, 3)) (hq : pc + 3 = q)
    (k : ∀ (v : Option Value) (w1 : va_W), post v w1 → zW X nL (wr ++ w1) (n1 + mc) (n2 + ms) q lv (v.toList ++ rest))
    (kx : ∀ (E : String) (w1 : va_W), postX E w1 → zT X nL (wr ++ w1) (n1 + mc) (n2 + ms) pc lv rest E) : zW X nL ws n1 n2 pc lv st := by
  refine z_backX (wc := wc) (wr := wr) (rest := rest) (a := (Value.ref b :: As).toArray) ?_ C.a isC isR hC hR hn hdis hq k kx
  intro H locs ls hP hD hS hFc hl
  have hPc : va_P X.D vwCl wc H := fun j x hx => by
    have h1 : (isC.map (fun i => ws[i]?))[j]? = some (some x) := by rw [hC, List.getElem?_map, hx]; rfl
    rw [List.getElem?_map] at h1
    cases hi : isC[j]? with
    | none => rw [hi] at h1; cases h1
    | some i => rw [hi] at h1; exact hP i x (Option.some.inj h1)
  have hDc := hD.sub isC hnC hC
  exact vx_runV (As := As) (rest := rest) ⟨C.x, C.b, C.ml, C.ow, C.ts⟩ (hM H.size) (cwV n C.ts hG hws hrc hrs hcl (by rw [C.r]; exact hroom)) ⟨zPreZ_blind _ _ _ _ _ _, va_recv C.k hPc hci hb, fun U hU hW => ⟨rfl, ⟨by rw [hU], by rw [hU]; exact hPc, va_K.moved hW.alike C.k, hDc.weaken (fun _ _ _ _ => trivial)⟩, hZ.mv hFc hW (fun q h1 h2 => by rw [hU]; exact hS.2.1 q h1 h2) (by rw [hU]; exact hS.1)⟩⟩ rfl hAs hl.1 hst (lv_room hcat) hd (by rw [C.r]; exact hcells)
/-- a static call of a method that catches -/
theorem z_callSH (C : zC X cc nL own Ts Rm) (hZ : zZ t X.A X.s) {y : MethodName} {bytes : ByteArray} {maxL n index : Nat} {ret : Option FieldType} {hh : List (Nat × Nat × Nat × Nat)} {wsC wsC' : List Cond} {rmC : Room} {As rest : List Value} {wc wr : va_W} (hM : zMZ t X.l y wsC rmC X.D X.2.1 As wc mc ms post) (hG : GoodIn Ts (va_wsS own index y wsC)) (hws : wsC = .codeWith y bytes maxL ret hh :: wsC') (hrc : rmC.cells = mc) (hrs : rmC.slots = ms)
    (hcl : y.cls ≠ "java/lang/invoke/MethodHandle" ∧ y.cls ≠ "java/lang/invoke/VarHandle" ∧ (parseMethodDescriptor y.desc).map (fun d => d.parameters.length) = some n) (hroom : rmC.frames + 1 ≤ Rm.frames ∧ 8 + (maxL + 11) + rmC.locals ≤ Rm.locals) (hcells : n1 + mc ≤ Rm.cells ∧ n2 + ms ≤ Rm.slots)
    (isC isR : List Nat) (hC : isC.map (fun i => ws[i]?) = wc.map some) (hR : isR.map (fun i => ws[i]?) = wr.map some) (hnC : va_nd isC = true) (hn : va_nd isR = true) (hdis : ∀ i ∈ isR, i ∉ isC)
    (hAs : As.length = n) (hst : st = As.reverse ++ rest) (hcat : (rest.map fun v => v.category).sum ≤ 8) (hd : decode cc pc = .ok (.invokestatic index, 3)) (hq : pc + 3 = q)
    (k : ∀ (v : Option Value) (w1 : va_W), post v w1 → zW X nL (wr ++ w1) (n1 + mc) (n2 + ms) q lv (v.toList ++ rest)) : zW X nL ws n1 n2 pc lv st := by
  refine z_back (y := y) (wc := wc) (wr := wr) (rest := rest) (a := As.toArray) ?_ C.a isC isR hC hR hn hdis hq k
  intro H locs ls hP hD hS hFc hl
  have hPc : va_P X.D vwCl wc H := fun j x hx => by
    have h1 : (isC.map (fun i => ws[i]?))[j]? = some (some x) := by rw [hC, List.getElem?_map, hx]; rfl
    rw [List.getElem?_map] at h1
    cases hi : isC[j]? with
    | none => rw [hi] at h1; cases h1
    | some i => rw [hi] at h1; exact hP i x (Option.some.inj h1)
  have hDc := hD.sub isC hnC hC
  exact vx_runSW (As := As) (rest := rest) ⟨C.x, C.b, C.ml, C.ow, C.ts⟩ (hM H.size) (vx_cwSW n C.ts hG hws hrc hrs hcl (by rw [C.r]; exact hroom)) ⟨zPreZ_blind _ _ _ _ _ _, fun U hU hW => ⟨rfl, ⟨by rw [hU], by rw [hU]; exact hPc, va_K.moved hW.alike C.k, hDc.weaken (fun _ _ _ _ => trivial)⟩, hZ.mv hFc hW (fun q h1 h2 => by rw [hU]; exact hS.2.1 q h1 h2) (by rw [hU]; exact hS.1)⟩⟩ rfl hAs hl.1 hst (lv_room hcat) hd (by rw [C.r]; exact hcells)
/-! the script, an array outside the world -/
def zS (X : zX) (sb L : Nat) (xs : Nat → Int32) : Prop := va_X sb L xs X.s X.s.heap ∧ sb < X.s.heap.size ∧ ¬ X.A sb
theorem z_sld (C : zC X cc nL own Ts Rm) {sb L : Nat} {xs : Nat → Int32} (hS0 : zS X sb L xs) {i : Nat} (hi : i < L) (hL : L ≤ 2049) (hd : decode cc pc = .ok (.iaload, 1)) (hq : pc + 1 = q) (k : zW X nL ws n1 n2 q lv (.int (xs i) :: st)) : zW X nL ws n1 n2 pc lv (.int (nI i) :: .ref sb :: st) := by
  subst hq
  refine fun H locs ls hP hD hS hl => va_sld C.x C.b hS0.1 hS0.2.1 hS0.2.2 hS (vp_in_nI hi (by omega)) hd ?_
  rw [nI_clamp (by omega)]
  exact k H locs ls hP hD hS hl
theorem z_slen (C : zC X cc nL own Ts Rm) {sb L : Nat} {xs : Nat → Int32} (hS0 : zS X sb L xs) (hd : decode cc pc = .ok (.arraylength, 1)) (hq : pc + 1 = q) (k : zW X nL ws n1 n2 q lv (.int (nI L) :: st)) : zW X nL ws n1 n2 pc lv (.ref sb :: st) := by
  subst hq
  exact fun H locs ls hP hD hS hl => va_slen C.x C.b hS0.1 hS0.2.1 hS0.2.2 hS hd (k H locs ls hP hD hS hl)
def zPreS (sb L : Nat) (xs : Nat → Int32) (D : va_G) (g : ClassId × ClassId × ClassId) (sz : Nat) : State → Prop := fun U => zPre D g sz [] U ∧ va_X sb L xs U U.heap ∧ sb < U.heap.size
theorem zPreS_blind (sb L : Nat) (xs : Nat → Int32) (D : va_G) (g : ClassId × ClassId × ClassId) (sz : Nat) (av : List Value) : FrameBlind (va_Pc av (zPreS sb L xs D g sz)) := fun a U f mk q => by
  obtain ⟨q0, ⟨q1, qP, qK, qD⟩, qX, qb⟩ := q
  exact ⟨q0, ⟨q1, qP, va_K.moved (u := U) (U := U.calling f mk a) (Vm.Alike.refl U.vm) qK, qD⟩, va_X.moved (u := U) (U := U.calling f mk a) (Vm.Alike.refl U.vm) qX, qb⟩
def zMS (sb L : Nat) (xs : Nat → Int32) (l : Launch) (y : MethodName) (Ts : List Cond) (Rm : Room) (D : va_G) (g : ClassId × ClassId × ClassId) (av : List Value) (post : Option Value → va_W → Prop) : Prop :=
  ∀ sz : Nat, Met l y Ts Rm (va_Pc av (zPreS sb L xs D g sz)) (zPost D (va_A [] sz) post) 0 0 (va_A [] sz)
theorem z_metS {sb L : Nat} {xs : Nat → Int32} {l : Launch} {y : MethodName} {Ts Ts' : List Cond} {Rm : Room} {D : va_G} {g : ClassId × ClassId × ClassId} {av : List Value} {post : Option Value → va_W → Prop} {cc : ByteArray} {maxL : Nat} {ret : Option FieldType} {lv : List (Nat × Value)}
    (hy : plainName y.cls = true) (hw : Ts = .code y cc maxL ret :: Ts') (hlen : (lg_sl av).length ≤ maxL) (hlv : lv_args 0 av = lv)
    (body : ∀ X : zX, X.D = D → X.2.1 = g → X.l = l → zC X cc maxL y.cls Ts Rm → zE X ret 0 0 post → zS X sb L xs → zW X maxL [] 0 0 0 lv []) : zMS sb L xs l y Ts Rm D g av post := by
  intro sz
  refine Met.ofW (cc := cc) (maxL := maxL) (ret := ret) hy hw ?_
  intro p e s m args below meth c s₁ B hml hv
  obtain ⟨rfl, ⟨hsz, hP, hK, hD0⟩, hX, hbl⟩ := hv
  have hts := atoms_spec (ws := Ts) B.pre
  have hown : s.vm.findClass y.cls = some m.cls := findClass_of_methodNamed B.named
  subst hsz
  have hD := hD0.self (sz := s.heap.size)
  have hl := lv_entry av (n := maxL) hlen
  have key := body (D, g, va_A [] s.heap.size, p, l, e, (headSpec Ts Rm).room, s, m, av.toArray, below, meth, c, MQ below (zPost D (va_A [] s.heap.size) post) av.toArray s 0 0 (va_A [] s.heap.size)) rfl rfl rfl
    ⟨B.exec, B.bytes, hml, hown, hts, hK, fun q h => Or.inr h, rfl, B.notSynchronized⟩ ⟨B.returns, rfl⟩ ⟨hX, hbl, fun h => by
      rcases h with h | h
      · obtain ⟨z, ez, hz⟩ := h
        exact absurd hz (by simp)
      · exact absurd hbl (Nat.not_lt.mpr h)⟩ s.heap [] _ hP hD va_S.rf (by rw [← hlv]; exact hl)
  rw [lg_entry_eq]
  exact key
theorem z_callSS (C : zC X cc nL own Ts Rm) {sb L : Nat} {xs : Nat → Int32} (hS0 : zS X sb L xs) {y : MethodName} {bytes : ByteArray} {maxL n index : Nat} {ret : Option FieldType} {wsC wsC' : List Cond} {rmC : Room} {As rest : List Value} (hM : zMS sb L xs X.l y wsC rmC X.D X.2.1 As post) (hG : GoodIn Ts (va_wsS own index y wsC)) (hws : wsC = .code y bytes maxL ret :: wsC') (hrc : rmC.cells = 0) (hrs : rmC.slots = 0)
    (hcl : y.cls ≠ "java/lang/invoke/MethodHandle" ∧ y.cls ≠ "java/lang/invoke/VarHandle" ∧ (parseMethodDescriptor y.desc).map (fun d => d.parameters.length) = some n) (hroom : rmC.frames + 1 ≤ Rm.frames ∧ 8 + (maxL + 11) + rmC.locals ≤ Rm.locals) (hcells : n1 + 0 ≤ Rm.cells ∧ n2 + 0 ≤ Rm.slots)
    (isR : List Nat) (hR : isR.map (fun i => ws[i]?) = ws.map some) (hn : va_nd isR = true)
    (hAs : As.length = n) (hst : st = As.reverse ++ rest) (hcat : (rest.map fun v => v.category).sum ≤ 8) (hd : decode cc pc = .ok (.invokestatic index, 3)) (hq : pc + 3 = q)
    (k : ∀ (v : Option Value) (w1 : va_W), post v w1 → zW X nL (ws ++ w1) (n1 + 0) (n2 + 0) q lv (v.toList ++ rest)) : zW X nL ws n1 n2 pc lv st := by
  refine z_back (y := y) (wc := []) (wr := ws) (rest := rest) (a := As.toArray) ?_ C.a [] isR rfl hR hn (fun _ _ h => nomatch h) hq k
  intro H locs ls hP hD hS hFc hl
  have hPc : va_P X.D vwCl [] H := fun j x hx => by cases hx
  have hDc := hD.sub (ws' := []) [] rfl rfl
  exact va_runS (As := As) (rest := rest) ⟨C.x, C.b, C.ml, C.ow, C.ts⟩ (hM H.size) (va_cwS n C.ts hG hws hrc hrs hcl (by rw [C.r]; exact hroom)) ⟨zPreS_blind _ _ _ _ _ _ _, fun U hU hW => ⟨rfl, ⟨by rw [hU], by rw [hU]; exact hPc, va_K.moved hW.alike C.k, hDc.weaken (fun _ _ _ _ => trivial)⟩, va_X.moved hW.alike (va_X.kept hS0.1 (by rw [hU]; exact hS.2.1 sb hS0.2.1 hS0.2.2)), by rw [hU]; exact Nat.lt_of_lt_of_le hS0.2.1 hS.1⟩⟩ rfl hAs hl.1 hst (lv_room hcat) hd (by rw [C.r]; exact hcells)
end ZH
