/-! statics: the two tables of axioms, what a throw needs, the texts -/
def fixL : List Int32 := [nI 0, nI 0, nI 1, nI 0, nI 6, nI 2, nI 0, nI 7, nI 3, nI 6, nI 6, nI 1, nI 6, nI 7, nI 3, nI 7, nI 6, nI 1, nI 7, nI 7, nI 3, nI 5, nI 6, nI 1, nI 5, nI 7, nI 1, nI 4, nI 6, nI 3, nI 4, nI 7, nI 3, nI 10, nI 6, nI 2, nI 10, nI 7, nI 2, nI 11, nI 4, nI 1, nI 9, nI 4, nI 3]
def ofmL : List Int32 := [nI 0, nI 11, nI 6, nI 2, nI 7, nI 2]
def fixF (i : Nat) : Int32 := fixL.getD i (nI 0)
def ofmF (i : Nat) : Int32 := ofmL.getD i (nI 0)
def zStr : List (Nat × String) := [(104, "not 0 to 9 memberships"), (126, "more than 600 rows"), (132, "no such row or no such part of it"), (141, "no such row"), (149, "no such rule"), (161, "nothing is told of this number"), (57, "the type is no term that may be one"), (68, "there are 40 literals"), (79, "these are no parts of a fact"), (88, "there are 80 given facts")]
def xIA : String := "java/lang/IllegalArgumentException"
def xIS : String := "java/lang/IllegalStateException"
def xUO : String := "java/lang/UnsupportedOperationException"
def xNs : List String := ["java/lang/RuntimeException", "java/lang/Exception"]
def zB : List Cond := [.declares (Bundle.initS "java/lang/RuntimeException"), .declares (Bundle.initS "java/lang/Exception"), .declares (Bundle.initS Bundle.tN), .castable xIA xIA, .castable xIS xIS, .castable xUO xUO]
def zZ (t : Nat × Nat) (A : Nat → Prop) (U : State) : Prop :=
  va_Z RX0 "FIXED" "[I" (.ref t.1) A U U.heap ∧ va_Z RX0 "OF_MEMBERSHIP" "[I" (.ref t.2) A U U.heap ∧ (va_X t.1 45 fixF U U.heap ∧ t.1 < U.heap.size ∧ ¬ A t.1) ∧ (va_X t.2 6 ofmF U U.heap ∧ t.2 < U.heap.size ∧ ¬ A t.2) ∧
  vx_Zq Bundle.tN "UNASSIGNED_STACK" Bundle.steD A U U.heap ∧ vx_Zq Bundle.tN "SUPPRESSED_SENTINEL" Bundle.listD A U U.heap ∧ (∀ q ∈ zStr, ∃ sa, vk_R RX5 q.1 q.2 sa U) ∧ va_Nw (.methodLinkNest RX5 9 yX4_init RX5) U ∧ va_Nw (.methodLinkNest RX5 18 yX1_init RX5) U ∧ (∀ w ∈ zB, va_Nw w U) ∧ va_Nc xIS xIA U
theorem zB_mv {s U : State} (hW : s.WarmedH U.vm) (h : ∀ w ∈ zB, va_Nw w s) : ∀ w ∈ zB, va_Nw w U := by
  have k1 := va_Nw.warmD hW (h _ (List.mem_of_getElem? (i := 0) rfl))
  have k2 := va_Nw.warmD hW (h _ (List.mem_of_getElem? (i := 1) rfl))
  have k3 := va_Nw.warmD hW (h _ (List.mem_of_getElem? (i := 2) rfl))
  have k4 := va_Nw.warmC hW (h _ (List.mem_of_getElem? (i := 3) rfl))
  have k5 := va_Nw.warmC hW (h _ (List.mem_of_getElem? (i := 4) rfl))
  have k6 := va_Nw.warmC hW (h _ (List.mem_of_getElem? (i := 5) rfl))
  exact List.forall_mem_cons.mpr ⟨k1, List.forall_mem_cons.mpr ⟨k2, List.forall_mem_cons.mpr ⟨k3, List.forall_mem_cons.mpr ⟨k4, List.forall_mem_cons.mpr ⟨k5, List.forall_mem_cons.mpr ⟨k6, fun _ h => nomatch h⟩⟩⟩⟩⟩⟩
theorem zZ.mv {t : Nat × Nat} {A B : Nat → Prop} {s U : State} (h : zZ t A s) (hAB : ∀ q, B q → A q) (hW : s.WarmedH U.vm) (hq : ∀ q : Nat, q < s.heap.size → ¬ A q → U.heap[q]? = s.heap[q]?) (hz : s.heap.size ≤ U.heap.size) : zZ t B U := by
  obtain ⟨h1, h2, ⟨h3, h4, h5⟩, ⟨h6, h7, h8⟩, h9, h10, h11, h13, h14, h15, h16⟩ := h
  exact ⟨va_Z.moved hW.alike (va_Z.narrow (va_Z.kept h1 hq) hAB), va_Z.moved hW.alike (va_Z.narrow (va_Z.kept h2 hq) hAB), ⟨va_X.moved hW.alike (va_X.kept h3 (hq _ h4 h5)), Nat.lt_of_lt_of_le h4 hz, fun e => h5 (hAB _ e)⟩, ⟨va_X.moved hW.alike (va_X.kept h6 (hq _ h7 h8)), Nat.lt_of_lt_of_le h7 hz, fun e => h8 (hAB _ e)⟩,
    vx_Zq.moved hW.alike (vx_Zq.narrow (vx_Zq.kept h9 hq) hAB), vx_Zq.moved hW.alike (vx_Zq.narrow (vx_Zq.kept h10 hq) hAB), fun q hq1 => by
      obtain ⟨sa, h12⟩ := h11 q hq1
      exact ⟨sa, vk_R.warm hW h12⟩, va_Nw.warmM hW h13, va_Nw.warmM hW h14, zB_mv hW h15, va_Nc.moved hW.alike h16⟩
def zPreZ (t : Nat × Nat) (D : va_G) (g : ClassId × ClassId × ClassId) (sz : Nat) (w : va_W) : State → Prop := fun U => zPre D g sz w U ∧ zZ t (va_A w sz) U
def zMZ (t : Nat × Nat) (l : Launch) (y : MethodName) (Ts : List Cond) (Rm : Room) (D : va_G) (g : ClassId × ClassId × ClassId) (av : List Value) (w : va_W) (mc ms : Nat) (post : Option Value → va_W → Prop) : Prop :=
  ∀ sz : Nat, Met l y Ts Rm (va_Pc av (zPreZ t D g sz w)) (zPost D (va_A w sz) post) mc ms (va_A w sz)
theorem zPreZ_blind (t : Nat × Nat) (D : va_G) (g : ClassId × ClassId × ClassId) (sz : Nat) (av : List Value) (w : va_W) : FrameBlind (va_Pc av (zPreZ t D g sz w)) := fun a U f mk q => by
  obtain ⟨q0, ⟨q1, qP, qK, qD⟩, qZ⟩ := q
  exact ⟨q0, ⟨q1, qP, va_K.moved (u := U) (U := U.calling f mk a) (Vm.Alike.refl U.vm) qK, qD⟩, qZ.mv (U := U.calling f mk a) (fun _ h => h) (State.WarmedH.refl U) (fun _ _ _ => rfl) (Nat.le_refl _)⟩
theorem z_metZ {t : Nat × Nat} {l : Launch} {y : MethodName} {Ts Ts' : List Cond} {Rm : Room} {D : va_G} {g : ClassId × ClassId × ClassId} {av : List Value} {w : va_W} {mc ms : Nat} {post : Option Value → va_W → Prop} {cc : ByteArray} {maxL : Nat} {ret : Option FieldType} {lv : List (Nat × Value)}
    (hy : plainName y.cls = true) (hw : Ts = .code y cc maxL ret :: Ts') (hlen : (lg_sl av).length ≤ maxL) (hlv : lv_args 0 av = lv)
    (body : ∀ X : zX, X.D = D → X.2.1 = g → X.l = l → X.meth.name = y.name → zC X cc maxL y.cls Ts Rm → zE X ret mc ms post → zZ t X.A X.s → zW X maxL w 0 0 0 lv []) : zMZ t l y Ts Rm D g av w mc ms post := by
  intro sz
  refine Met.ofW (cc := cc) (maxL := maxL) (ret := ret) hy hw ?_
  intro p e s m args below meth c s₁ B hml hv
  obtain ⟨rfl, ⟨hsz, hP, hK, hD0⟩, hZ⟩ := hv
  have hts := atoms_spec (ws := Ts) B.pre
  have hown : s.vm.findClass y.cls = some m.cls := findClass_of_methodNamed B.named
  have hname : meth.name = y.name := (name_of_methodNamed B.named B.method).1
  subst hsz
  have hD := hD0.self (sz := s.heap.size)
  have hl := lv_entry av (n := maxL) hlen
  have key := body (D, g, va_A w s.heap.size, p, l, e, (headSpec Ts Rm).room, s, m, av.toArray, below, meth, c, MQ below (zPost D (va_A w s.heap.size) post) av.toArray s mc ms (va_A w s.heap.size)) rfl rfl rfl hname
    ⟨B.exec, B.bytes, hml, hown, hts, hK, fun q h => Or.inr h, rfl, B.notSynchronized⟩ ⟨B.returns, rfl⟩ hZ s.heap [] _ hP hD va_S.rf (by rw [← hlv]; exact hl)
  rw [lg_entry_eq]
  exact key
section ZZ
variable {X : zX} {cc : ByteArray} {nL : Nat} {own : String} {Ts : List Cond} {Rm : Room} {ws : va_W} {n1 n2 pc q mc ms : Nat} {lv lv' : List (Nat × Value)} {st : List Value} {post : Option Value → va_W → Prop} {t : Nat × Nat}
theorem z_getF (C : zC X cc nL own Ts Rm) (hZ : zZ t X.A X.s) {index : Nat} (hf : Cond.fieldLink own index RX0 "FIXED" "[I" ∈ Ts) (hd : decode cc pc = .ok (.getstatic index, 3)) (hq : pc + 3 = q) (k : zW X nL ws n1 n2 q lv (.ref t.1 :: st)) : zW X nL ws n1 n2 pc lv st := by
  subst hq
  exact fun H locs ls hP hD hS hl => va_gets C.x C.b hZ.1 hS C.ow (C.ts _ hf) (fun _ h => h) hd (k H locs ls hP hD hS hl)
theorem z_getO (C : zC X cc nL own Ts Rm) (hZ : zZ t X.A X.s) {index : Nat} (hf : Cond.fieldLink own index RX0 "OF_MEMBERSHIP" "[I" ∈ Ts) (hd : decode cc pc = .ok (.getstatic index, 3)) (hq : pc + 3 = q) (k : zW X nL ws n1 n2 q lv (.ref t.2 :: st)) : zW X nL ws n1 n2 pc lv st := by
  subst hq
  exact fun H locs ls hP hD hS hl => va_gets C.x C.b hZ.2.1 hS C.ow (C.ts _ hf) (fun _ h => h) hd (k H locs ls hP hD hS hl)
theorem z_ldF (C : zC X cc nL own Ts Rm) (hZ : zZ t X.A X.s) {i : Nat} (hi : i < 45) (hd : decode cc pc = .ok (.iaload, 1)) (hq : pc + 1 = q) (k : zW X nL ws n1 n2 q lv (.int (fixF i) :: st)) : zW X nL ws n1 n2 pc lv (.int (nI i) :: .ref t.1 :: st) := by
  subst hq
  refine fun H locs ls hP hD hS hl => va_sld C.x C.b hZ.2.2.1.1 hZ.2.2.1.2.1 hZ.2.2.1.2.2 hS (vp_in_nI hi (by decide)) hd ?_
  rw [nI_clamp (by omega)]
  exact k H locs ls hP hD hS hl
theorem z_ldO (C : zC X cc nL own Ts Rm) (hZ : zZ t X.A X.s) {i : Nat} (hi : i < 6) (hd : decode cc pc = .ok (.iaload, 1)) (hq : pc + 1 = q) (k : zW X nL ws n1 n2 q lv (.int (ofmF i) :: st)) : zW X nL ws n1 n2 pc lv (.int (nI i) :: .ref t.2 :: st) := by
  subst hq
  refine fun H locs ls hP hD hS hl => va_sld C.x C.b hZ.2.2.2.1.1 hZ.2.2.2.1.2.1 hZ.2.2.2.1.2.2 hS (vp_in_nI hi (by decide)) hd ?_
  rw [nI_clamp (by omega)]
  exact k H locs ls hP hD hS hl
theorem z_callVZ (C : zC X cc nL own Ts Rm) (hZ : zZ t X.A X.s) {y : MethodName} {bytes : ByteArray} {maxL n index : Nat} {ret : Option FieldType} {wsC wsC' : List Cond} {rmC : Room} {C0 : String} {b : Nat} {As rest : List Value} {wc wr : va_W} (hM : zMZ t X.l y wsC rmC X.D X.2.1 (.ref b :: As) wc mc ms post) (hG : GoodIn Ts (wsV own index C0 y wsC)) (hws : wsC = .code y bytes maxL ret :: wsC') (hrc : rmC.cells = mc) (hrs : rmC.slots = ms)
    (hcl : y.cls = C0 ∧ y.cls ≠ "java/lang/invoke/MethodHandle" ∧ y.cls ≠ "java/lang/invoke/VarHandle" ∧ (parseMethodDescriptor y.desc).map (fun d => d.parameters.length) = some n) (hroom : rmC.frames + 1 ≤ Rm.frames ∧ 8 + (maxL + 11) + rmC.locals ≤ Rm.locals) (hcells : n1 + mc ≤ Rm.cells ∧ n2 + ms ≤ Rm.slots)
    (q0 ci : Nat) {fs : List Value} {T : u_T} {N : Nat} (hb : wc[q0]? = some (b, .inr (ci, fs))) (hci : vwCl[ci]? = some (C0, T, N)) (isC isR : List Nat) (hC : isC.map (fun i => ws[i]?) = wc.map some) (hR : isR.map (fun i => ws[i]?) = wr.map some) (hnC : va_nd isC = true) (hn : va_nd isR = true) (hdis : ∀ i ∈ isR, i ∉ isC)
    (hAs : As.length = n) (hst : st = As.reverse ++ .ref b :: rest) (hcat : (rest.map fun v => v.category).sum ≤ 8) (hd : decode cc pc = .ok (.invokevirtual index, 3)) (hq : pc + 3 = q)
    (k : ∀ (v : Option Value) (w1 : va_W), post v w1 → zW X nL (wr ++ w1) (n1 + mc) (n2 + ms) q lv (v.toList ++ rest)) : zW X nL ws n1 n2 pc lv st := by
  refine z_back (y := y) (wc := wc) (wr := wr) (rest := rest) (a := (Value.ref b :: As).toArray) ?_ C.a isC isR hC hR hn hdis hq k
  intro H locs ls hP hD hS hFc hl
  have hPc : va_P X.D vwCl wc H := fun j x hx => by
    have h1 : (isC.map (fun i => ws[i]?))[j]? = some (some x) := by rw [hC, List.getElem?_map, hx]; rfl
    rw [List.getElem?_map] at h1
    cases hi : isC[j]? with
    | none => rw [hi] at h1; cases h1
    | some i => rw [hi] at h1; exact hP i x (Option.some.inj h1)
  have hDc := hD.sub isC hnC hC
  exact va_runV (As := As) (rest := rest) ⟨C.x, C.b, C.ml, C.ow, C.ts⟩ (hM H.size) (cwV n C.ts hG hws hrc hrs hcl (by rw [C.r]; exact hroom)) ⟨zPreZ_blind _ _ _ _ _ _, va_recv C.k hPc hci hb, fun U hU hW => ⟨rfl, ⟨by rw [hU], by rw [hU]; exact hPc, va_K.moved hW.alike C.k, hDc.weaken (fun _ _ _ _ => trivial)⟩, hZ.mv hFc hW (fun q h1 h2 => by rw [hU]; exact hS.2.1 q h1 h2) (by rw [hU]; exact hS.1)⟩⟩ rfl hAs hl.1 hst (lv_room hcat) hd (by rw [C.r]; exact hcells)
end ZZ
