/-! contracts over worlds: zM; a method's entry, its returns, calls -/
def zPre (D : va_G) (g : ClassId × ClassId × ClassId) (sz : Nat) (w : va_W) : State → Prop := fun U => U.heap.size = sz ∧ va_P D vwCl w U.heap ∧ va_K D vwCl (zty g) U ∧ va_D (fun _ => True) w
def zPost (D : va_G) (A : Nat → Prop) (post : Option Value → va_W → Prop) : Array Value → State → Outcome → State → Prop := fun _ st oc t => ∃ (v : Option Value) (w1 : va_W), oc = .returned v ∧ post v w1 ∧ va_P D vwCl w1 t.heap ∧ va_D A w1 ∧ va_F A st t
def zM (l : Launch) (y : MethodName) (Ts : List Cond) (Rm : Room) (D : va_G) (g : ClassId × ClassId × ClassId) (av : List Value) (w : va_W) (mc ms : Nat) (post : Option Value → va_W → Prop) : Prop :=
  ∀ sz : Nat, Met l y Ts Rm (va_Pc av (zPre D g sz w)) (zPost D (va_A w sz) post) mc ms (va_A w sz)
/-- what a body owes at its end -/
def zE (X : zX) (ret : Option FieldType) (mc ms : Nat) (post : Option Value → va_W → Prop) : Prop := X.meth.sig.returnType = ret ∧ X.Q = MQ X.below (zPost X.D X.A post) X.args X.s mc ms X.A
theorem zPre_blind (D : va_G) (g : ClassId × ClassId × ClassId) (sz : Nat) (av : List Value) (w : va_W) : FrameBlind (va_Pc av (zPre D g sz w)) := fun a U f mk q => by
  obtain ⟨q0, q1, qP, qK, qD⟩ := q
  exact ⟨q0, q1, qP, va_K.moved (u := U) (U := U.calling f mk a) (Vm.Alike.refl U.vm) qK, qD⟩
theorem z_met {l : Launch} {y : MethodName} {Ts Ts' : List Cond} {Rm : Room} {D : va_G} {g : ClassId × ClassId × ClassId} {av : List Value} {w : va_W} {mc ms : Nat} {post : Option Value → va_W → Prop} {cc : ByteArray} {maxL : Nat} {ret : Option FieldType} {lv : List (Nat × Value)}
    (hy : plainName y.cls = true) (hw : Ts = .code y cc maxL ret :: Ts') (hlen : (lg_sl av).length ≤ maxL) (hlv : lv_args 0 av = lv)
    (body : ∀ X : zX, X.D = D → X.2.1 = g → X.l = l → X.meth.name = y.name → zC X cc maxL y.cls Ts Rm → zE X ret mc ms post → zW X maxL w 0 0 0 lv []) : zM l y Ts Rm D g av w mc ms post := by
  intro sz
  refine Met.ofW (cc := cc) (maxL := maxL) (ret := ret) hy hw ?_
  intro p e s m args below meth c s₁ B hml hv
  obtain ⟨rfl, hsz, hP, hK, hD0⟩ := hv
  have hts := atoms_spec (ws := Ts) B.pre
  have hown : s.vm.findClass y.cls = some m.cls := findClass_of_methodNamed B.named
  have hname : meth.name = y.name := (name_of_methodNamed B.named B.method).1
  subst hsz
  have hD := hD0.self (sz := s.heap.size)
  have hl := lv_entry av (n := maxL) hlen
  have key := body (D, g, va_A w s.heap.size, p, l, e, (headSpec Ts Rm).room, s, m, av.toArray, below, meth, c, MQ below (zPost D (va_A w s.heap.size) post) av.toArray s mc ms (va_A w s.heap.size)) rfl rfl rfl hname
    ⟨B.exec, B.bytes, hml, hown, hts, hK, fun q h => Or.inr h, rfl, B.notSynchronized⟩ ⟨B.returns, rfl⟩ s.heap [] _ hP hD va_S.rf (by rw [← hlv]; exact hl)
  rw [lg_entry_eq]
  exact key
section ZE
variable {X : zX} {cc : ByteArray} {nL : Nat} {own : String} {Ts : List Cond} {Rm : Room} {ws : va_W} {n1 n2 pc q mc ms : Nat} {lv lv' : List (Nat × Value)} {st : List Value} {post : Option Value → va_W → Prop}
theorem z_iret (C : zC X cc nL own Ts Rm) (E : zE X (some .int) mc ms post) (h1 : n1 ≤ mc) (h2 : n2 ≤ ms) {v : Int32} (hd : decode cc pc = .ok (.ireturn, 1)) (hp : post (some (.int v)) ws) : zW X nL ws n1 n2 pc lv [.int v] := by
  intro H locs ls hP hD hS hl
  rw [show X.Q = _ from E.2]
  exact W.widen h1 h2 (W.iret C.x C.b E.1 (fun t ht hW => ⟨_, ws, rfl, hp, by rw [ht]; exact hP, hD, hS.F ht⟩) hS.2.2 hd C.lk)
theorem z_zret (C : zC X cc nL own Ts Rm) (E : zE X (some .boolean) mc ms post) (h1 : n1 ≤ mc) (h2 : n2 ≤ ms) {v : Int32} (hn : narrow .boolean (.int v) = .int v) (hd : decode cc pc = .ok (.ireturn, 1)) (hp : post (some (.int v)) ws) : zW X nL ws n1 n2 pc lv [.int v] := by
  intro H locs ls hP hD hS hl
  rw [show X.Q = _ from E.2]
  exact W.widen h1 h2 (W.zret C.x C.b E.1 hn (fun t ht hW => ⟨_, ws, rfl, hp, by rw [ht]; exact hP, hD, hS.F ht⟩) hS.2.2 hd C.lk)
theorem z_vret (C : zC X cc nL own Ts Rm) (E : zE X none mc ms post) (h1 : n1 ≤ mc) (h2 : n2 ≤ ms) (hd : decode cc pc = .ok (.return_, 1)) (hp : post none ws) : zW X nL ws n1 n2 pc lv [] := by
  intro H locs ls hP hD hS hl
  rw [show X.Q = _ from E.2]
  exact W.widen h1 h2 (W.vret C.x C.b E.1 (fun t ht hW => ⟨_, ws, rfl, hp, by rw [ht]; exact hP, hD, hS.F ht⟩) hS.2.2 hd C.lk)
theorem z_aret (C : zC X cc nL own Ts Rm) {rt : FieldType} (E : zE X (some rt) mc ms post) (h1 : n1 ≤ mc) (h2 : n2 ≤ ms) (hrt : (∃ n, rt = .object n) ∨ ∃ t, rt = .array t) {a : Nat} (hd : decode cc pc = .ok (.areturn, 1)) (hp : post (some (.ref a)) ws) : zW X nL ws n1 n2 pc lv [.ref a] := by
  intro H locs ls hP hD hS hl
  rw [show X.Q = _ from E.2]
  exact W.widen h1 h2 (W.aret C.x C.b E.1 hrt (Or.inr ⟨_, rfl⟩) (fun t ht hW => ⟨_, ws, rfl, hp, by rw [ht]; exact hP, hD, hS.F ht⟩) hS.2.2 hd C.lk)
/-- a call's end: the rest of the world, and what came back -/
theorem z_back {y : MethodName} {wc wr : va_W} {rest st0 : List Value} {a : Array Value} (hr : ∀ (H : Heap) (locs : List Loc) (ls : Array Slot), va_P X.D vwCl ws H → va_D X.A ws → va_S X.A X.s.heap H locs → (∀ q, va_A wc H.size q → X.A q) → lv_has ls nL lv → va_Run X.p X.l X.e X.R X.s X.m X.args X.below X.meth X.c H locs n1 n2 mc ms (F0 X.m pc ls st0) rest (zPost X.D (va_A wc H.size) post a) (va_A wc H.size))
    (hA : ∀ q, X.s.heap.size ≤ q → X.A q) (isC isR : List Nat) (hC : isC.map (fun i => ws[i]?) = wc.map some) (hR : isR.map (fun i => ws[i]?) = wr.map some) (hn : va_nd isR = true) (hdis : ∀ i ∈ isR, i ∉ isC) (hq : pc + 3 = q)
    (k : ∀ (v : Option Value) (w1 : va_W), post v w1 → zW X nL (wr ++ w1) (n1 + mc) (n2 + ms) q lv (v.toList ++ rest)) : zW X nL ws n1 n2 pc lv st0 := by
  subst hq
  intro H locs ls hP hD hS hl T hT St
  have hFc := va_free (wc := wc) hD hS hA isC hC
  obtain ⟨v, st₀, t, T', L, h0, X', hL, e1, e2, ⟨v', w1, hv, hp, hP1, hD1, hz, hk⟩, go⟩ := hr H locs ls hP hD hS hFc hl T hT St
  cases hv
  rw [h0] at hz hk
  rw [← e1] at hP1 hz hk
  obtain ⟨hP2, hD2⟩ := va_join (wr := wr) (w1 := w1) hP hD isC isR hC hR hn hdis hk hFc hP1 hD1
  have hS2 : va_S X.A X.s.heap T'.heap (locs ++ L) := ⟨Nat.le_trans hS.1 hz, fun q h1 h2 => by rw [hk q (Nat.lt_of_lt_of_le h1 hS.1) (fun z => h2 (hFc q z))]; exact hS.2.1 q h1 h2, fun q hq => by
      rcases List.mem_append.mp hq with h | h
      · exact hS.2.2 q h
      · exact hFc _ (hL q h)⟩
  obtain ⟨t2, a1, b1⟩ := k v w1 hp T'.heap (locs ++ L) ls hP2 hD2 hS2 hl T' rfl X'
  exact ⟨t2, go t2 a1, b1⟩
theorem z_callV (C : zC X cc nL own Ts Rm) {y : MethodName} {bytes : ByteArray} {maxL n index : Nat} {ret : Option FieldType} {wsC wsC' : List Cond} {rmC : Room} {C0 : String} {b : Nat} {As rest : List Value} {wc wr : va_W} (hM : zM X.l y wsC rmC X.D X.2.1 (.ref b :: As) wc mc ms post) (hG : GoodIn Ts (wsV own index C0 y wsC)) (hws : wsC = .code y bytes maxL ret :: wsC') (hrc : rmC.cells = mc) (hrs : rmC.slots = ms)
    (hcl : y.cls = C0 ∧ y.cls ≠ "java/lang/invoke/MethodHandle" ∧ y.cls ≠ "java/lang/invoke/VarHandle" ∧ (parseMethodDescriptor y.desc).map (fun d => d.parameters.length) = some n) (hroom : rmC.frames + 1 ≤ Rm.frames ∧ 8 + (maxL + 11) + rmC.locals ≤ Rm.locals) (hcells : n1 + mc ≤ Rm.cells ∧ n2 + ms ≤ Rm.slots)
    (q0 ci : Nat) {fs : List Value} {T : u_T} {N : Nat} (hb : wc[q0]? = some (b, .inr (ci, fs))) (hci : vwCl[ci]? = some (C0, T, N)) (isC isR : List Nat) (hC : isC.map (fun i => ws[i]?) = wc.map some) (hR : isR.map (fun i => ws[i]?) = wr.map some) (hnC : va_nd isC = true) (hn : va_nd isR = true) (hdis : ∀ i ∈ isR, i ∉ isC)
    (hAs : As.length = n) (hst : st = As.reverse ++ .ref b :: rest) (hcat : (rest.map fun v => v.category).sum ≤ 8) (hd : decode cc pc = .ok (.invokevirtual index, 3)) (hq : pc + 3 = q)
    (k : ∀ (v : Option Value) (w1 : va_W), post v w1 → zW X nL (wr ++ w1) (n1 + mc) (n2 + ms) q lv (v.toList ++ rest)) : zW X nL ws n1 n2 pc lv st := by
  refine z_back (y := y) (wc := wc) (wr := wr) (rest := rest) (a := (Value.ref b :: As).toArray) ?_ C.a isC isR hC hR hn hdis hq k
  intro H locs ls hP hD hS hFc hl
  have hPc : va_P X.D vwCl wc H := fun j x hx => by
    have h1 : (isC.map (fun i => ws[i]?))[j]? = some (some x) := by rw [hC, List.getElem?_map, hx]; rfl
    rw [List.getElem?_map] at h1
    cases hi : isC[j]? with
    | none => rw [hi] at h1; cases h1
    | some i => rw [hi] at h1; exact hP i x (Option.some.inj h1)
  have hDc := hD.sub isC hnC hC
  exact va_runV (As := As) (rest := rest) ⟨C.x, C.b, C.ml, C.ow, C.ts⟩ (hM H.size) (cwV n C.ts hG hws hrc hrs hcl (by rw [C.r]; exact hroom)) ⟨zPre_blind _ _ _ _ _, va_recv C.k hPc hci hb, fun U hU hW => ⟨rfl, by rw [hU], by rw [hU]; exact hPc, va_K.moved hW.alike C.k, hDc.weaken (fun _ _ _ _ => trivial)⟩⟩ rfl hAs hl.1 hst (lv_room hcat) hd (by rw [C.r]; exact hcells)
theorem z_callS (C : zC X cc nL own Ts Rm) {y : MethodName} {bytes : ByteArray} {maxL n index : Nat} {ret : Option FieldType} {wsC wsC' : List Cond} {rmC : Room} {As rest : List Value} {wc wr : va_W} (hM : zM X.l y wsC rmC X.D X.2.1 As wc mc ms post) (hG : GoodIn Ts (va_wsS own index y wsC)) (hws : wsC = .code y bytes maxL ret :: wsC') (hrc : rmC.cells = mc) (hrs : rmC.slots = ms)
    (hcl : y.cls ≠ "java/lang/invoke/MethodHandle" ∧ y.cls ≠ "java/lang/invoke/VarHandle" ∧ (parseMethodDescriptor y.desc).map (fun d => d.parameters.length) = some n) (hroom : rmC.frames + 1 ≤ Rm.frames ∧ 8 + (maxL + 11) + rmC.locals ≤ Rm.locals) (hcells : n1 + mc ≤ Rm.cells ∧ n2 + ms ≤ Rm.slots)
    (isC isR : List Nat) (hC : isC.map (fun i => ws[i]?) = wc.map some) (hR : isR.map (fun i => ws[i]?) = wr.map some) (hnC : va_nd isC = true) (hn : va_nd isR = true) (hdis : ∀ i ∈ isR, i ∉ isC)
    (hAs : As.length = n) (hst : st = As.reverse ++ rest) (hcat : (rest.map fun v => v.category).sum ≤ 8) (hd : decode cc pc = .ok (.invokestatic index, 3)) (hq : pc + 3 = q)
    (k : ∀ (v : Option Value) (w1 : va_W), post v w1 → zW X nL (wr ++ w1) (n1 + mc) (n2 + ms) q lv (v.toList ++ rest)) : zW X nL ws n1 n2 pc lv st := by
  refine z_back (y := y) (wc := wc) (wr := wr) (rest := rest) (a := As.toArray) ?_ C.a isC isR hC hR hn hdis hq k
  intro H locs ls hP hD hS hFc hl
  have hPc : va_P X.D vwCl wc H := fun j x hx => by
    have h1 : (isC.map (fun i => ws[i]?))[j]? = some (some x) := by rw [hC, List.getElem?_map, hx]; rfl
    rw [List.getElem?_map] at h1
    cases hi : isC[j]? with
    | none => rw [hi] at h1; cases h1
    | some i => rw [hi] at h1; exact hP i x (Option.some.inj h1)
  have hDc := hD.sub isC hnC hC
  exact va_runS (As := As) (rest := rest) ⟨C.x, C.b, C.ml, C.ow, C.ts⟩ (hM H.size) (va_cwS n C.ts hG hws hrc hrs hcl (by rw [C.r]; exact hroom)) ⟨zPre_blind _ _ _ _ _, fun U hU hW => ⟨rfl, by rw [hU], by rw [hU]; exact hPc, va_K.moved hW.alike C.k, hDc.weaken (fun _ _ _ _ => trivial)⟩⟩ rfl hAs hl.1 hst (lv_room hcat) hd (by rw [C.r]; exact hcells)
end ZE
