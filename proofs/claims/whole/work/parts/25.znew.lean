/-! making: arrays, objects, constructors -/
section ZM
variable {X : zX} {cc : ByteArray} {nL : Nat} {own : String} {Ts : List Cond} {Rm : Room} {ws : va_W} {n1 n2 m1 m2 pc q mc ms : Nat} {lv lv' : List (Nat × Value)} {st : List Value} {post : Option Value → va_W → Prop} {t : Nat × Nat}
theorem z_newI (C : zC X cc nL own Ts Rm) {N : Nat} (harr : Cond.arrayClass .int ∈ Ts) (hN : N < 100000) (hcells : n1 + 1 ≤ Rm.cells) (hslots : n2 + N ≤ Rm.slots) (hd : decode cc pc = .ok (.newarray .int, 2)) (hq : pc + 2 = q) (hm1 : n1 + 1 = m1) (hm2 : n2 + N = m2) (k : ∀ q0 : Nat, zW X nL (ws ++ [(q0, .inl (X.cI, N, .inl (fun _ => 0)))]) m1 m2 q lv (.ref q0 :: st)) : zW X nL ws n1 n2 pc lv (.int (nI N) :: st) := by
  subst hq hm1 hm2
  intro H locs ls hP hD hS hl
  refine va_newa (atype := .int) C.x C.b (C.ts _ harr) rfl C.k hP hD hS C.a (a0 := (N, .inl (fun _ => 0))) (fun cA => rfl) (nI_pos (by omega)) (nI_clamp (by omega)) (by show N * 4 ≤ _; omega) (by rw [C.r]; exact hcells) (by rw [C.r]; exact hslots) hd (fun q0 cA H1 hK hP1 hD1 hS1 => ?_)
  have e1 : X.s.vm.findClass ("[" ++ FieldType.int.toString) = some cA := (hK.2 3 (cA, .int) rfl).2
  have e2 : X.s.vm.findClass ("[" ++ FieldType.int.toString) = some X.cI := (C.k.2 0 (X.cI, .int) rfl).2
  obtain rfl : cA = X.cI := Option.some.inj (e1.symm.trans e2)
  exact k q0 H1 locs ls hP1 hD1 hS1 hl
theorem z_newZ (C : zC X cc nL own Ts Rm) {N : Nat} (harr : Cond.arrayClass .boolean ∈ Ts) (hN : N < 100000) (hcells : n1 + 1 ≤ Rm.cells) (hslots : n2 + N ≤ Rm.slots) (hd : decode cc pc = .ok (.newarray .boolean, 2)) (hq : pc + 2 = q) (hm1 : n1 + 1 = m1) (hm2 : n2 + N = m2) (k : ∀ q0 : Nat, zW X nL (ws ++ [(q0, .inl (X.cZ, N, .inl (fun _ => 0)))]) m1 m2 q lv (.ref q0 :: st)) : zW X nL ws n1 n2 pc lv (.int (nI N) :: st) := by
  subst hq hm1 hm2
  intro H locs ls hP hD hS hl
  refine va_newa (atype := .boolean) C.x C.b (C.ts _ harr) rfl C.k hP hD hS C.a (a0 := (N, .inl (fun _ => 0))) (fun cA => rfl) (nI_pos (by omega)) (nI_clamp (by omega)) (by show N * 1 ≤ _; omega) (by rw [C.r]; exact hcells) (by rw [C.r]; exact hslots) hd (fun q0 cA H1 hK hP1 hD1 hS1 => ?_)
  have e1 : X.s.vm.findClass ("[" ++ FieldType.boolean.toString) = some cA := (hK.2 3 (cA, .boolean) rfl).2
  have e2 : X.s.vm.findClass ("[" ++ FieldType.boolean.toString) = some X.cZ := (C.k.2 1 (X.cZ, .boolean) rfl).2
  obtain rfl : cA = X.cZ := Option.some.inj (e1.symm.trans e2)
  exact k q0 H1 locs ls hP1 hD1 hS1 hl
theorem z_newJ (C : zC X cc nL own Ts Rm) {N : Nat} (harr : Cond.arrayClass .long ∈ Ts) (hN : N < 100000) (hcells : n1 + 1 ≤ Rm.cells) (hslots : n2 + N ≤ Rm.slots) (hd : decode cc pc = .ok (.newarray .long, 2)) (hq : pc + 2 = q) (hm1 : n1 + 1 = m1) (hm2 : n2 + N = m2) (k : ∀ q0 : Nat, zW X nL (ws ++ [(q0, .inl (X.cJ, N, .inr (.inl (fun _ => 0))))]) m1 m2 q lv (.ref q0 :: st)) : zW X nL ws n1 n2 pc lv (.int (nI N) :: st) := by
  subst hq hm1 hm2
  intro H locs ls hP hD hS hl
  refine va_newa (atype := .long) C.x C.b (C.ts _ harr) rfl C.k hP hD hS C.a (a0 := (N, .inr (.inl (fun _ => 0)))) (fun cA => rfl) (nI_pos (by omega)) (nI_clamp (by omega)) (by show N * 8 ≤ _; omega) (by rw [C.r]; exact hcells) (by rw [C.r]; exact hslots) hd (fun q0 cA H1 hK hP1 hD1 hS1 => ?_)
  have e1 : X.s.vm.findClass ("[" ++ FieldType.long.toString) = some cA := (hK.2 3 (cA, .long) rfl).2
  have e2 : X.s.vm.findClass ("[" ++ FieldType.long.toString) = some X.cJ := (C.k.2 2 (X.cJ, .long) rfl).2
  obtain rfl : cA = X.cJ := Option.some.inj (e1.symm.trans e2)
  exact k q0 H1 locs ls hP1 hD1 hS1 hl
theorem z_new (C : zC X cc nL own Ts Rm) {C0 : String} {T : u_T} {N ci index : Nat} {ty : Nat → FieldType} {fs : List Value} (hin : ∀ w ∈ u_ws C0 T N, w ∈ Ts) (hty : ∀ k, k < N → parseFieldDescriptor (T k).2.2.1 = some (ty k)) (hcl : Cond.classLink own index C0 ∈ Ts) (hinst : Cond.instantiable C0 N ∈ Ts) (hini : Cond.initialized C0 ∈ Ts) (hc : vwCl[ci]? = some (C0, T, N)) (hfs : ∀ j, j < N → defaultValue (ty j) = vp_V fs j) (hcells : n1 + 1 ≤ Rm.cells) (hslots : n2 + N ≤ Rm.slots) (hd : decode cc pc = .ok (.new index, 3)) (hq : pc + 3 = q) (hm1 : n1 + 1 = m1) (hm2 : n2 + N = m2)
    (k : ∀ q0 : Nat, zW X nL (ws ++ [(q0, .inr (ci, fs))]) m1 m2 q lv (.ref q0 :: st)) : zW X nL ws n1 n2 pc lv st := by
  subst hq hm1 hm2
  intro H locs ls hP hD hS hl
  exact va_new C.x C.b C.ts hin ty hty C.ow (C.ts _ hcl) (C.ts _ hinst) (C.ts _ hini) C.k hP hD hS C.a hc hfs (by rw [C.r]; exact hcells) (by rw [C.r]; exact hslots) hd (fun q0 H1 hP1 hD1 hS1 => k q0 H1 locs ls hP1 hD1 hS1 hl)
theorem z_objInit (C : zC X cc nL own Ts Rm) {idx a : Nat} (hl0 : Cond.methodLink own idx objectInit ∈ Ts) (hi : Cond.instanceMethod objectInit ∈ Ts) (hcd : Cond.code objectInit ⟨#[0xb1]⟩ 1 none ∈ Ts) (hfr : 1 ≤ Rm.frames) (hlo : 2 * 0 + (st.map fun v => v.category).sum + 12 ≤ Rm.locals) (hd : decode cc pc = .ok (.invokespecial idx, 3)) (hq : pc + 3 = q) (k : zW X nL ws n1 n2 q lv st) : zW X nL ws n1 n2 pc lv (.ref a :: st) := by
  subst hq
  intro H locs ls hP hD hS hl
  exact W.objInit C.x C.b C.ow (C.ts _ hl0) (C.ts _ hi) (C.ts _ hcd) rfl (by rw [C.ml]; exact hl.1) rfl hd (by rw [C.r]; exact hfr) (by rw [C.r]; exact hlo) (k H locs ls hP hD hS hl)
theorem z_callI (C : zC X cc nL own Ts Rm) {y : MethodName} {bytes : ByteArray} {maxL n index : Nat} {wsC wsC' : List Cond} {rmC : Room} {b : Nat} {As rest : List Value} {wc wr : va_W} (hM : zM X.l y wsC rmC X.D X.2.1 (.ref b :: As) wc mc ms post) (hG : GoodIn Ts wsC) (hws : wsC = .code y bytes maxL none :: wsC') (hrc : rmC.cells = mc) (hrs : rmC.slots = ms) (hini : Cond.initialized y.cls ∈ Ts) (hml : Cond.methodLink own index y ∈ Ts) (him : Cond.instanceMethod y ∈ Ts) (hy1 : y.name = "<init>")
    (hcl : y.cls ≠ "java/lang/invoke/MethodHandle" ∧ y.cls ≠ "java/lang/invoke/VarHandle" ∧ (parseMethodDescriptor y.desc).map (fun d => d.parameters.length) = some n) (hroom : rmC.frames + 1 ≤ Rm.frames ∧ 8 + (maxL + 11) + rmC.locals ≤ Rm.locals) (hcells : n1 + mc ≤ Rm.cells ∧ n2 + ms ≤ Rm.slots)
    (isC isR : List Nat) (hC : isC.map (fun i => ws[i]?) = wc.map some) (hR : isR.map (fun i => ws[i]?) = wr.map some) (hnC : va_nd isC = true) (hn : va_nd isR = true) (hdis : ∀ i ∈ isR, i ∉ isC)
    (hAs : As.length = n) (hst : st = As.reverse ++ .ref b :: rest) (hcat : (rest.map fun v => v.category).sum ≤ 8) (hd : decode cc pc = .ok (.invokespecial index, 3)) (hq : pc + 3 = q)
    (k : ∀ (v : Option Value) (w1 : va_W), post v w1 → zW X nL (wr ++ w1) (n1 + mc) (n2 + ms) q lv (v.toList ++ rest)) : zW X nL ws n1 n2 pc lv st := by
  refine z_back (y := y) (wc := wc) (wr := wr) (rest := rest) (a := (Value.ref b :: As).toArray) ?_ C.a isC isR hC hR hn hdis hq k
  intro H locs ls hP hD hS hFc hl
  have hPc : va_P X.D vwCl wc H := fun j x hx => by
    have h1 : (isC.map (fun i => ws[i]?))[j]? = some (some x) := by rw [hC, List.getElem?_map, hx]; rfl
    rw [List.getElem?_map] at h1
    cases hi : isC[j]? with
    | none => rw [hi] at h1; cases h1
    | some i => rw [hi] at h1; exact hP i x (Option.some.inj h1)
  have hDc := hD.sub isC hnC hC
  exact va_runI (As := As) (rest := rest) ⟨C.x, C.b, C.ml, C.ow, C.ts⟩ (hM H.size) (cwI n C.ts hG hws hrc hrs (C.ts _ hini) (C.ts _ hml) (C.ts _ him) hy1 hcl (by rw [C.r]; exact hroom)) ⟨zPre_blind _ _ _ _ _, fun U hU hW => ⟨rfl, by rw [hU], by rw [hU]; exact hPc, va_K.moved hW.alike C.k, hDc.weaken (fun _ _ _ _ => trivial)⟩⟩ rfl hAs hl.1 hst (lv_room hcat) hd (by rw [C.r]; exact hcells)
/-- a constructor of a nest mate -/
theorem z_callIN (C : zC X cc nL own Ts Rm) {host : String} {y : MethodName} {bytes : ByteArray} {maxL n index : Nat} {wsC wsC' : List Cond} {rmC : Room} {b : Nat} {As rest : List Value} {wc wr : va_W} (hM : zM X.l y wsC rmC X.D X.2.1 (.ref b :: As) wc mc ms post) (hG : GoodIn Ts wsC) (hws : wsC = .code y bytes maxL none :: wsC') (hrc : rmC.cells = mc) (hrs : rmC.slots = ms) (hini : Cond.initialized y.cls ∈ Ts) (hnw : va_Nw (.methodLinkNest own index y host) X.s) (him : Cond.instanceMethod y ∈ Ts) (hy1 : y.name = "<init>")
    (hcl : y.cls ≠ "java/lang/invoke/MethodHandle" ∧ y.cls ≠ "java/lang/invoke/VarHandle" ∧ (parseMethodDescriptor y.desc).map (fun d => d.parameters.length) = some n) (hroom : rmC.frames + 1 ≤ Rm.frames ∧ 8 + (maxL + 11) + rmC.locals ≤ Rm.locals) (hcells : n1 + mc ≤ Rm.cells ∧ n2 + ms ≤ Rm.slots)
    (isC isR : List Nat) (hC : isC.map (fun i => ws[i]?) = wc.map some) (hR : isR.map (fun i => ws[i]?) = wr.map some) (hnC : va_nd isC = true) (hn : va_nd isR = true) (hdis : ∀ i ∈ isR, i ∉ isC)
    (hAs : As.length = n) (hst : st = As.reverse ++ .ref b :: rest) (hcat : (rest.map fun v => v.category).sum ≤ 8) (hd : decode cc pc = .ok (.invokespecial index, 3)) (hq : pc + 3 = q)
    (k : ∀ (v : Option Value) (w1 : va_W), post v w1 → zW X nL (wr ++ w1) (n1 + mc) (n2 + ms) q lv (v.toList ++ rest)) : zW X nL ws n1 n2 pc lv st := by
  refine z_back (y := y) (wc := wc) (wr := wr) (rest := rest) (a := (Value.ref b :: As).toArray) ?_ C.a isC isR hC hR hn hdis hq k
  intro H locs ls hP hD hS hFc hl
  have hPc : va_P X.D vwCl wc H := fun j x hx => by
    have h1 : (isC.map (fun i => ws[i]?))[j]? = some (some x) := by rw [hC, List.getElem?_map, hx]; rfl
    rw [List.getElem?_map] at h1
    cases hi : isC[j]? with
    | none => rw [hi] at h1; cases h1
    | some i => rw [hi] at h1; exact hP i x (Option.some.inj h1)
  have hDc := hD.sub isC hnC hC
  exact va_runIN (As := As) (rest := rest) ⟨C.x, C.b, C.ml, C.ow, C.ts⟩ (hM H.size) ⟨va_cnB n C.ts hG hws hrc hrs hnw (C.ts _ hini) hcl (by rw [C.r]; exact hroom), hy1, C.ts _ him⟩ ⟨zPre_blind _ _ _ _ _, fun U hU hW => ⟨rfl, by rw [hU], by rw [hU]; exact hPc, va_K.moved hW.alike C.k, hDc.weaken (fun _ _ _ _ => trivial)⟩⟩ rfl hAs hl.1 hst (lv_room hcat) hd (by rw [C.r]; exact hcells)
end ZM
